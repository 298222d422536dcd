import java.util.List;

/** Faults of texts: the terms of part II. */
public final class FaultTest {
    private static final Due due = new Due();

    public static void main(String[] args) {
        theFirst();
        where();
        theLeast();
        cannotStand();
        eachInEachPosition();
        numbers();
        ninth();
        ninthOfMixed();
        secondTime();
        names();
        twentyFifth();
        due.close("FaultTest");
    }

    private static void theFirst() {
        due.of("FAULTS, the first as TOKENS are come to,");
        due.faulty("oats 10000; oats 1;", 2, 5);
        due.faulty("oats mud 10000;", 5, 5);
        due.faulty("oats 1 mud;", 1, 7);
        due.faulty("oats 10000 mud;", 2, 5);
        due.faulty("oats 1; steps gone; oats 2;", 5, 14);
        due.faulty("oats 1 ! oats 10000;", 1, 7);
        due.faulty("drive 6; !", 2, 6);
        due.faulty("oats (((((((((10000;", 3, 13);
        due.faulty("oats ((((((((10000((;", 2, 13);
        due.faulty("pass 1;".repeat(24) + "pass 0;", 6, 168);
        due.faulty("pass 1;".repeat(23) + "pass 0; pass 1;", 2, 166);
        due.faulty("oats 1; oats 10000;", 4, 8);
        // Each of a number, a ninth and a name, behind whatever may stand ahead of it.
        for (String ahead : new String[] {"", "1+", "1-", "1*", "1/", "(", "-", "if ", "if not ",
            "if 1=", "if 1<=", "if 1=1 or ", "if 1=1 and ", "if 1=1?", "if 1=1?1:", "if 1=1?1:2end+"}) {
            due.faulty("oats " + ahead + "10000;", 2, 5 + ahead.length());
            due.faulty("oats " + ahead + "mud;", 5, 5 + ahead.length());
            due.faulty("oats " + ahead + "?;", 1, 5 + ahead.length());
        }
        for (String ahead : new String[] {"1+", "1-", "1*", "1/"}) {
            due.faulty("oats ((((((((" + ahead + "(1", 3, 13 + ahead.length());
            due.faulty("oats ((((((((" + ahead + "-1", 3, 13 + ahead.length());
            due.faulty("oats ((((((((" + ahead + "if", 3, 13 + ahead.length());
        }
        for (String ahead : new String[] {"", "1=", "1=1 or ", "1=1 and ", "1=1?", "1=1?1:"}) {
            due.faulty("oats (((((((if " + ahead + "(1", 3, 15 + ahead.length());
            due.faulty("oats (((((((if " + ahead + "-1", 3, 15 + ahead.length());
            due.faulty("oats (((((((if " + ahead + "if", 3, 15 + ahead.length());
        }
        for (String ahead : new String[] {"", "1=1 or ", "1=1 and "}) {
            due.faulty("oats (((((((if " + ahead + "not", 3, 15 + ahead.length());
        }
    }

    private static void where() {
        due.of("at the TOKEN's first byte (of the end at the length),");
        due.faulty("gallop", 1, 0);
        due.faulty("  gallop", 1, 2);
        due.faulty("\n\ngallop", 1, 2);
        due.faulty("oats   12345  ;", 2, 7);
        due.faulty("oats 1 <= 2;", 1, 7);
        due.faulty("oats", 1, 4);
        due.faulty("oats ", 1, 5);
        due.faulty("oats 1 \n", 1, 8);
        due.faulty("oats if 1=1 ? 1 : 2 ", 1, 20);
        due.faulty("oats (", 1, 6);
        due.faulty("drive", 1, 5);
        due.faulty("drive 1", 1, 7);
        due.faulty("oats 1" + "+1".repeat(147), 1, 300);
        due.faulty("oats 1" + "+1".repeat(146) + "+", 1, 299);
        due.faulty("oats 1" + "+1".repeat(146) + "+;", 1, 299);
    }

    private static void theLeast() {
        due.of("of one the least:");
        // A number where none can stand, too large as well.
        due.faulty("oats 1 10000;", 1, 7);
        due.faulty("10000;", 1, 0);
        // The ninth that is open, where it can't stand.
        due.faulty("oats ((((((((1(;", 1, 14);
        due.faulty("oats ((((((((not;", 1, 13);
        // A name of another clause, where none can stand.
        due.faulty("oats 1 mud;", 1, 7);
        due.faulty("drive gone;", 1, 6);
        // A law for the second time, as the 25th clause.
        due.faulty("steps 1;" + "pass 1;".repeat(23) + "steps 1;", 4, 169);
        due.faulty("oats 1;" + "pass 1;".repeat(23) + "oats 1;", 4, 168);
        due.faulty("stride 1;" + "pass 1;".repeat(23) + "stride", 4, 170);
        // What begins no clause, in place of the 25th.
        due.faulty("pass 1;".repeat(24) + "day", 1, 168);
        due.faulty("pass 1;".repeat(24) + ";", 1, 168);
        due.faulty("pass 1;".repeat(24) + "!", 1, 168);
        due.faulty("pass 1;".repeat(24) + "gallop", 1, 168);
        // A law for the second time where no clause can begin.
        due.faulty("oats 1; steps oats", 1, 14);
    }

    private static void cannotStand() {
        due.of("1 it can't stand there, or is none.");
        due.faulty("oats foo;", 1, 5);
        due.faulty("oats !;", 1, 5);
        due.faulty("oats 1 & 2;", 1, 7);
        due.faulty("oats end;", 1, 5);
        due.faulty("oats oats;", 1, 5);
        due.faulty("oats or;", 1, 5);
        due.faulty("oats ?;", 1, 5);
        due.faulty("oats :;", 1, 5);
        due.faulty("oats );", 1, 5);
        due.faulty("oats <1;", 1, 5);
        due.faulty("oats 1 # 2;", 1, 7);
        due.faulty("oats 1 or 2;", 1, 7);
        due.faulty("oats if day;", 1, 11);
        due.faulty("day;", 1, 0);
        due.faulty("step 1;", 1, 0);
        due.faulty(";".repeat(300), 1, 0);
    }

    /** Every token in every position of the language: ahead of it, and those that can stand there. */
    private static void eachInEachPosition() {
        String clause = "steps stride oats drive pass";
        String names = "horse count shoe day mud place step gone";
        String one = "if - ( 5 " + names;
        String ask = one + " not";
        String on = "+ - * / ";
        String[][] positions = {{"", clause}, {"drive 1; ", clause}, {"oats 1; ", clause},
            {"drive ", "5"}, {"pass ", "5"}, {"drive 1 ", ";"}, {"stride ", one}, {"stride 1 + ", one},
            {"stride 1 * ", one}, {"stride - ", one}, {"stride ( ", one}, {"stride 1 ", on + ";"},
            {"stride day ", on + ";"}, {"stride -1 ", on + ";"}, {"stride (1) ", on + ";"},
            {"stride (1 ", on + ")"}, {"stride if ", ask}, {"stride if not ", ask},
            {"stride if 1=1 or ", ask}, {"stride if 1=1 and ", ask}, {"stride if 1 >= ", one},
            {"stride if 1 ", on + "< <= > >= = #"}, {"stride if not 1 ", on + "< <= > >= = #"},
            {"stride if 1=1 ", on + "or and ?"}, {"stride if 1=1 ? ", one},
            {"stride if 1=1 ? 1 ", on + ":"}, {"stride if 1=1 ? 1 : ", one},
            {"stride if 1=1 ? 1 : 1 ", on + "end"}, {"stride if 1=1 ? 1 : 1 end ", on + ";"}};
        String tokens = clause + " if end or and not " + names
            + " < <= > >= = # + - * / ( ) ; ? : 5 gallop Day ! & . " + (char) 9 + " " + (char) 200;
        for (String[] position : positions) {
            List<String> standing = List.of(position[1].split(" "));
            for (String token : tokens.split(" ")) {
                stand(position[0], token, standing.contains(token));
            }
        }
    }

    /** What can stand there is gone beyond: to the end that is missing, if it isn't complete. */
    private static void stand(String ahead, String token, boolean can) {
        String text = ahead + token;
        if (can && token.equals(";")) {
            due.stands(text);
        } else if (can && token.equals("gone")) {
            due.faulty(text, 5, ahead.length());
        } else if (ahead.equals("oats 1; ") && token.equals("oats")) {
            due.faulty(text, 4, ahead.length());
        } else {
            due.faulty(text, 1, can ? text.length() : ahead.length());
        }
    }

    private static void numbers() {
        due.of("2 a NUMBER that isn't one of those told (above 9999; HORSES 0 .. 5; "
            + "of pass 1 .. 99).");
        due.stands("oats 9999;");
        due.faulty("oats 10000;", 2, 5);
        due.faulty("steps 1+10000;", 2, 8);
        due.faulty("stride -10000;", 2, 8);
        due.faulty("oats if 1=10000 ? 1 : 2 end;", 2, 10);
        due.stands("drive 0;drive 5;drive 005;");
        due.faulty("drive 6;", 2, 6);
        due.faulty("drive 10;", 2, 6);
        due.faulty("drive 9999;", 2, 6);
        due.faulty("drive 10000;", 2, 6);
        due.faulty("drive 4294967296;", 2, 6);
        due.stands("pass 1;pass 99;pass 099;");
        due.faulty("pass 0;", 2, 5);
        due.faulty("pass 000;", 2, 5);
        due.faulty("pass 100;", 2, 5);
        due.faulty("pass 10000;", 2, 5);
        due.faulty("pass 4294967297;", 2, 5);
        due.faulty("drive 6", 2, 6);
        due.faulty("pass 0", 2, 5);
    }

    private static void ninth() {
        due.of("3 the 9th of ( not if and - (of one ONE) that are open around one another (at it).");
        due.stands("oats ((((((((1))))))));");
        due.faulty("oats (((((((((1)))))))));", 3, 13);
        due.stands("oats --------1;");
        due.faulty("oats ---------1;", 3, 13);
        due.stands("oats if not not not not not not not 1<2 ? 1 : 2 end;");
        due.faulty("oats if not not not not not not not not 1<2 ? 1 : 2 end;", 3, 36);
        String ifs = "if 1=1?".repeat(7);
        String ends = ":1end".repeat(7);
        due.stands("oats " + ifs + "if 1=1?1:2end" + ends + ";");
        due.faulty("oats if 1=1?" + ifs + "if 1=1?1:2end" + ends + ":1end;", 3, 61);
        // What is closed is not open any more.
        due.stands("oats ((((((((1))))))))+((((((((1))))))))*((((((((1))))))));");
        due.stands("oats --------1+--------1*--------1;");
        due.stands("oats 1-2-3-4-5-6-7-8-9-10-11-12;");
        due.stands("oats 1-((((((((1-1-1))))))));");
        due.stands("oats if " + "not 1=1 and ".repeat(8) + "not 1=1 ? 1 : 2 end;");
        due.stands("oats " + "if 1=1?1:2end+".repeat(9) + "1;");
        due.stands("oats " + "-(1)+".repeat(9) + "1;");
    }

    private static void ninthOfMixed() {
        due.faulty("oats ((((((((-1))))))));", 3, 13);
        due.faulty("oats --------(1);", 3, 13);
        due.faulty("oats ((((((((if 1=1?1:2end))))))));", 3, 13);
        due.faulty("oats 1-((((((((-1))))))));", 3, 15);
        due.faulty("oats (((((((if not 1=1?1:2end)))))));", 3, 15);
        due.stands("oats (((((((if 1=1?1:2end)))))));");
        due.stands("oats if not not not not not not not 1=1 ? ((((((1)))))) : -------1 end;");
        due.faulty("oats if not not not not not not not -1<2 ? 1 : 2 end;", 3, 36);
        due.faulty("oats if not not not not not not not 1<(2) ? 1 : 2 end;", 3, 38);
        due.faulty("oats if not not not not not not not if 1=1?1:2end=2 ? 1 : 2 end;", 3, 36);
        // Within each part of an if it is open, behind its end no more.
        due.faulty("oats if ((((((((1))))))))=1 ? 1 : 2 end;", 3, 15);
        due.faulty("oats if 1=((((((((1)))))))) ? 1 : 2 end;", 3, 17);
        due.faulty("oats if 1=1 ? ((((((((1)))))))) : 2 end;", 3, 21);
        due.faulty("oats if 1=1 ? 1 : ((((((((2)))))))) end;", 3, 25);
        due.stands("oats if (((((((1)))))))=1 ? (((((((1))))))) : (((((((2))))))) end;");
        due.stands("oats if 1=1 ? 1 : 2 end*((((((((2))))))));");
        // A not is open around its ask alone: not around the sign of another.
        due.stands("oats if not 1=1 or not 1=1 and (((((((1)))))))=1 ? 1 : 2 end;");
        due.faulty("oats if not 1=(((((((1))))))) ? 1 : 2 end;", 3, 20);
        due.stands("oats if not 1=1 and 1=(((((((1))))))) ? 1 : 2 end;");
        // A minus is open around its one alone.
        due.stands("oats -1*((((((((1))))))));");
        due.faulty("oats -((((((((1))))))));", 3, 13);
    }

    private static void secondTime() {
        due.of("4 steps, stride, oats for the second time (at it).");
        due.faulty("steps 1; steps 1;", 4, 9);
        due.faulty("stride 1; stride 1;", 4, 10);
        due.faulty("oats 1; oats 1;", 4, 8);
        due.faulty("oats 1;\n\noats", 4, 9);
        due.faulty("steps 1; stride 1; oats 1; pass 1; steps 1;", 4, 35);
        due.stands("steps 1; stride 1; oats 1;");
        due.stands("drive 1; drive 1; pass 1; pass 1;");
        // The texts are told apart: each has its own.
        CountingHorses x = new CountingHorses();
        due.stands(x, 0, "oats 1;");
        due.stands(x, 1, "oats 1;");
        due.is("a fault", Mails.read(x, "steps 1; steps 1;"), CountingHorses.NONE);
        due.stands(x, 2, "steps 1;");
    }

    private static void names() {
        due.of("5 a NAME that isn't of that CLAUSE (at it).");
        due.faulty("steps step;", 5, 6);
        due.faulty("steps gone;", 5, 6);
        due.faulty("stride gone;", 5, 7);
        due.faulty("stride 1+gone;", 5, 9);
        due.faulty("oats mud;", 5, 5);
        due.faulty("oats place;", 5, 5);
        due.faulty("oats step;", 5, 5);
        due.faulty("oats if 1 < mud ? 1 : 2 end;", 5, 12);
        due.faulty("oats 1; steps gone;", 5, 14);
        due.faulty("steps mud; oats mud;", 5, 16);
    }

    private static void twentyFifth() {
        due.of("6 the 25th CLAUSE (at its first TOKEN).");
        String most = "pass 1;".repeat(24);
        due.stands(most);
        due.stands(most + " \n ");
        for (String word : new String[] {"steps", "stride", "oats", "drive", "pass"}) {
            due.faulty(most + word, 6, 168);
            due.faulty(most + " " + word + " 1;", 6, 169);
        }
        due.faulty("steps 1;stride 1;oats 1;" + "drive 1;".repeat(22), 6, 192);
        due.faulty(most + most.substring(0, 126), 6, 168);
    }
}
