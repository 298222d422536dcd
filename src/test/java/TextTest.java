/** Promises 8 to 12: the tape, texts, their faults, and which one rules. */
public final class TextTest {
    private static final int NONE = CountingHorses.NONE;
    private static final Due due = new Due();

    public static void main(String[] args) {
        feed();
        end();
        text();
        by();
        tokens();
        faultOfPlace();
        faultOfNumber();
        faultOfDepth();
        faultOfTwice();
        faultOfName();
        faultOfClauses();
        due.close("TextTest");
    }

    private static void feed() {
        CountingHorses x = new CountingHorses();
        for (int i = 1; i <= 15; i++) {
            due.is("feed " + i, x.feed(0, 0, 0, 0, 0), i * 20);
        }
        due.is("feed beyond", x.feed(0, 0, 0, 0, 0), NONE);
        due.is("tape", x.about(11), 300);
        due.is("cut", x.end(281), 281);
        due.is("feed beyond by one", x.feed(0, 0, 0, 0, 0), NONE);
        due.is("tape stays", x.about(11), 281);
        due.is("cut", x.end(280), 280);
        due.is("feed up to 300", x.feed(0, 0, 0, 0, 0), 300);
        CountingHorses y = new CountingHorses();
        // "steps 12+345678*9;  ": all five numbers, the highest byte first.
        y.feed(0x73746570, 0x73203132, 0x2b333435, 0x2d343536, 0x2a393b20);
        due.is("text", y.text(), 0);
        y.horse(1, 1);
        y.by(0);
        due.is("12+345-456*9 below 0", y.would(0, 0, 2), 0);
        y.feed(0x73746570, 0x73203132, 0xff000000, 0, 0);
        y.end(9);
        due.is("a byte of 255", y.text(), NONE);
        due.is("fault", y.fault(0), 1);
        due.is("place", y.fault(1), 8);
    }

    private static void end() {
        CountingHorses x = new CountingHorses();
        due.is("nothing", x.end(0), 0);
        due.is("more than none", x.end(1), NONE);
        x.feed(0, 0, 0, 0, 0);
        due.is("more", x.end(21), NONE);
        due.is("below", x.end(-1), NONE);
        due.is("far below", x.end(Integer.MIN_VALUE), NONE);
        due.is("stays", x.about(11), 20);
        due.is("all", x.end(20), 20);
        due.is("some", x.end(3), 3);
        due.is("cut", x.about(11), 3);
        due.is("what was cut is gone", x.end(4), NONE);
    }

    private static void text() {
        CountingHorses x = new CountingHorses();
        due.is("ahead of any", x.fault(0), NONE);
        due.is("ahead of any", x.fault(1), NONE);
        due.is("an empty one", x.text(), 0);
        due.is("no fault", x.fault(0), 0);
        due.is("no place", x.fault(1), NONE);
        due.is("others", x.fault(2), NONE);
        due.is("others", x.fault(-1), NONE);
        due.stands(x, 1, " \n ");
        due.stands(x, 2, "oats 1;");
        due.is("tape is empty", x.about(11), 0);
        due.is("a fault", Due.read(x, "oats 1"), NONE);
        due.is("tape is empty", x.about(11), 0);
        due.is("its fault", x.fault(0), 1);
        due.stands(x, 3, "pass 1;");
        Due.putOnTape(x, "oats");
        due.is("a fifth", x.text(), NONE);
        due.is("the tape stays", x.about(11), 4);
        due.is("it was not read", x.fault(0), 0);
        due.is("texts", x.about(6), 4);
    }

    private static void by() {
        CountingHorses x = new CountingHorses();
        due.no("no text yet", x.by(0));
        due.yes("none", x.by(NONE));
        due.stands(x, 0, "steps 7;");
        due.no("beyond", x.by(1));
        due.no("below", x.by(-2));
        x.horse(2, 3);
        due.is("none rules", x.would(0, 0, 2), 2);
        due.yes("text 0", x.by(0));
        due.is("about", x.about(7), 0);
        due.is("it rules", x.would(0, 0, 2), 7);
        due.no("others", x.by(4));
        due.is("it stays", x.about(7), 0);
        due.yes("none", x.by(NONE));
        due.is("about", x.about(7), NONE);
        due.is("none rules", x.would(0, 0, 2), 2);
    }

    private static void tokens() {
        CountingHorses x = new CountingHorses();
        due.stands(x, 0, "steps1;stride\n2;oats 3;drive0;pass1;");
        due.stands(x, 1, "steps if 1<=2and 2>=1or 1<2and not 2>1or 1=1and 1#2?1:2end;");
        due.stands(x, 2, "oats 0000000000000000000000000000009999;");
        due.faulty("Steps 1;", 1, 0);
        due.faulty("stepss 1;", 1, 0);
        due.faulty("step s 1;", 1, 0);
        due.faulty("steps 1 2;", 1, 8);
        due.faulty("steps if 1 < = 2 ? 1 : 2 end;", 1, 13);
        due.faulty("steps if 1 => 2 ? 1 : 2 end;", 1, 12);
        due.faulty("steps if 1 <> 2 ? 1 : 2 end;", 1, 12);
        due.faulty("steps if 1 == 2 ? 1 : 2 end;", 1, 12);
        due.faulty("steps\t1;", 1, 5);
        due.faulty("steps 1\r;", 1, 7);
        due.faulty("steps 1;" + (char) 0, 1, 8);
        due.faulty("steps " + (char) 233 + ";", 1, 6);
        due.faulty("steps 1 & 2;", 1, 8);
        due.faulty(";".repeat(300), 1, 0);
        due.faulty("pass 1;".repeat(24) + ";".repeat(132), 1, 168);
        String longest = "oats 1" + "+1".repeat(146) + "+;";
        due.faulty(longest, 1, 299);
        due.stands(x, 3, "oats 1" + "+1".repeat(146) + " ;");
    }

    private static void faultOfPlace() {
        due.faulty("oats", 1, 4);
        due.faulty("oats ", 1, 5);
        due.faulty("oats 1 \n", 1, 8);
        due.faulty(";", 1, 0);
        due.faulty("oats;", 1, 4);
        due.faulty("oats 1;;", 1, 7);
        due.faulty("oats 1 +;", 1, 8);
        due.faulty("oats + 1;", 1, 5);
        due.faulty("oats (1;", 1, 7);
        due.faulty("oats 1);", 1, 6);
        due.faulty("oats ();", 1, 6);
        due.faulty("oats 1 < 2;", 1, 7);
        due.faulty("oats (1 < 2);", 1, 8);
        due.faulty("oats not 1;", 1, 5);
        due.faulty("oats oats;", 1, 5);
        due.faulty("oats foo;", 1, 5);
        due.faulty("oats day day;", 1, 9);
        due.faulty("day;", 1, 0);
        due.faulty("oats if 1 ? 2 : 3 end;", 1, 10);
        due.faulty("oats if (1 < 2) ? 2 : 3 end;", 1, 11);
        due.faulty("oats if 1 < 2 ? 2 end;", 1, 18);
        due.faulty("oats if 1 < 2 ? 2 : 3;", 1, 21);
        due.faulty("oats if 1 < 2 : 2 ? 3 end;", 1, 14);
        due.faulty("oats if 1 < 2 < 3 ? 2 : 3 end;", 1, 14);
        due.faulty("oats if 1 < 2 and ? 2 : 3 end;", 1, 18);
        due.faulty("drive;", 1, 5);
        due.faulty("drive day;", 1, 6);
        due.faulty("drive -1;", 1, 6);
        due.faulty("drive 1 + 1;", 1, 8);
        due.faulty("pass 1", 1, 6);
        due.faulty("oats 1 gone;", 1, 7);
        due.faulty("oats 1 99999;", 1, 7);
        due.faulty("oats ((((((((1 (;", 1, 15);
    }

    private static void faultOfNumber() {
        due.faulty("oats 10000;", 2, 5);
        due.faulty("oats 1+99999999999999999999;", 2, 7);
        due.faulty("oats 4294967297;", 2, 5);
        due.faulty("drive 6;", 2, 6);
        due.faulty("drive 10000;", 2, 6);
        due.faulty("pass 0;", 2, 5);
        due.faulty("pass 100;", 2, 5);
        CountingHorses x = new CountingHorses();
        due.stands(x, 0, "oats 9999;drive 0;drive 5;pass 1;pass 99;pass 099;");
    }

    private static void faultOfDepth() {
        CountingHorses x = new CountingHorses();
        due.stands(x, 0, "oats ((((((((1))))))))+((((((((1))))))));");
        due.stands(x, 1, "oats --------1--------1;");
        due.stands(x, 2, "oats if not not not not not not not 1 < 2 ? 1 : 2 end;");
        due.stands(x, 3, "oats if not 1=1 and not 1=1 and not 1=1 and not 1=1 and not 1=1 and not 1=1"
            + " and not 1=1 and not 1=1 and not 1=1 ? 1 : 2 end;");
        due.faulty("oats (((((((((1)))))))));", 3, 13);
        due.faulty("oats ---------1;", 3, 13);
        due.faulty("oats if not not not not not not not not 1 < 2 ? 1 : 2 end;", 3, 36);
        due.faulty("oats if not not not not not not not -1 < 2 ? 1 : 2 end;", 3, 36);
        due.faulty("oats if not not not not not not not 1 < (2) ? 1 : 2 end;", 3, 40);
        due.faulty("oats (((((((-if 1=1 ? 1 : 2 end)))))));", 3, 13);
        due.faulty("oats 1-((((((((-1))))))));", 3, 15);
        String ifs = "if 1=1?".repeat(8);
        due.faulty("oats " + ifs + "if 1=1?1:2 end" + ":1end".repeat(8) + ";", 3, 61);
    }

    private static void faultOfTwice() {
        due.faulty("steps 1; steps 1;", 4, 9);
        due.faulty("stride 1; oats 2; stride 1;", 4, 18);
        due.faulty("oats 1; oats", 4, 8);
        due.faulty("oats 1;" + "pass 1;".repeat(23) + "oats 1;", 4, 168);
        CountingHorses x = new CountingHorses();
        due.stands(x, 0, "drive 1; drive 1; pass 1; pass 1;");
    }

    private static void faultOfName() {
        CountingHorses x = new CountingHorses();
        due.stands(x, 0, "steps horse+count+shoe+day+mud+place;");
        due.stands(x, 1, "stride horse+count+shoe+day+mud+place+step;");
        due.stands(x, 2, "oats horse+count+shoe+day+gone;");
        due.faulty("steps step;", 5, 6);
        due.faulty("steps gone;", 5, 6);
        due.faulty("stride 1+gone;", 5, 9);
        due.faulty("oats mud;", 5, 5);
        due.faulty("oats place;", 5, 5);
        due.faulty("oats step;", 5, 5);
        due.faulty("oats if 1 < mud ? 1 : 2 end;", 5, 12);
    }

    private static void faultOfClauses() {
        CountingHorses x = new CountingHorses();
        due.stands(x, 0, "pass 1;".repeat(24));
        due.stands(x, 1, "drive 1;".repeat(21) + "steps 1;stride 1;oats 1;");
        due.faulty("pass 1;".repeat(25), 6, 168);
        due.faulty("pass 1;".repeat(24) + " steps 1;", 6, 169);
        due.faulty("pass 1;".repeat(24) + " drive", 6, 169);
        due.faulty("pass 1;".repeat(24) + " 1", 1, 169);
    }
}
