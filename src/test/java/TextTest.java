/** The tape, tokens, and what a text may be: the terms of part II, promises 8 to 12. */
public final class TextTest {
    private static final int NONE = CountingHorses.NONE;
    private static final int NO = 0;
    private static final int YES = 1;
    private static final int LEAST = Integer.MIN_VALUE;
    private static final int MOST = Integer.MAX_VALUE;
    private static final Due due = new Due();

    public static void main(String[] args) {
        texts();
        blanks();
        letters();
        digits();
        signs();
        clauses();
        sums();
        ones();
        eithers();
        feed();
        feedBeyond();
        end();
        text();
        textOfNone();
        nothingIsLeft();
        fault();
        by();
        due.close("TextTest");
    }

    private static void texts() {
        due.of("==== II. TEXTS 0 .. 3: of up to 300 bytes.");
        CountingHorses x = new CountingHorses();
        due.stands(x, 0, "oats 1" + "+1".repeat(146) + " ;");
        due.stands(x, 1, "");
        due.stands(x, 2, " ".repeat(300));
        due.stands(x, 3, " ".repeat(293) + "oats 1;");
        due.is("a fifth", Mails.read(x, ""), NONE);
        due.faulty(" ".repeat(294) + "oats 1", 1, 300);
    }

    private static void blanks() {
        due.of("TOKENS, blanks (32, 10) aside:");
        due.stands(" oats\n\n1 \n; ");
        due.stands("\noats 1;");
        due.stands("steps1;stride\n2;oats 3;drive0;pass1;");
        for (int sign : new int[] {0, 1, 8, 9, 11, 12, 13, 31, 33, 127, 128, 138, 160, 255}) {
            due.faulty("oats" + (char) sign + "1;", 1, 4);
            due.faulty("oats 1;" + (char) sign, 1, 7);
        }
        due.faulty("oa ts 1;", 1, 0);
        due.faulty("oats 1 1;", 1, 7);
        due.faulty("oats if 1 < = 2 ? 1 : 2 end;", 1, 12);
        due.faulty("oats if 1 > = 2 ? 1 : 2 end;", 1, 12);
        due.faulty("oats if 1 <\n= 2 ? 1 : 2 end;", 1, 12);
    }

    private static void letters() {
        due.of("letters a .. z, A .. Z one behind the other (one TOKEN),");
        for (char sign : "azAZmM".toCharArray()) {
            due.faulty("oats day" + sign + ";", 1, 5);
        }
        for (char sign : "@[`{_.$".toCharArray()) {
            due.faulty("oats day" + sign + ";", 1, 8);
        }
        due.faulty("Oats 1;", 1, 0);
        due.faulty("oATS 1;", 1, 0);
        due.faulty("oats Day;", 1, 5);
        due.faulty("oats da;", 1, 5);
        due.faulty("oatss 1;", 1, 0);
        due.faulty("oats dayday;", 1, 5);
        due.faulty("oats day day;", 1, 9);
        due.faulty("oats horsecount;", 1, 5);
        due.faulty("x".repeat(300), 1, 0);
    }

    private static void digits() {
        due.of("digits likewise (NUMBERS, 0 .. 9999),");
        due.call(Mails.ruled("steps 12;"), 12, "would", 0, 0, 2);
        due.call(Mails.ruled("steps 007;"), 7, "would", 0, 0, 2);
        due.call(Mails.ruled("steps 0;"), 0, "would", 0, 0, 2);
        due.call(Mails.ruled("steps 9999-9910;"), 89, "would", 0, 0, 2);
        due.call(Mails.ruled("oats " + "0".repeat(200) + "987;"), 987, "would", 0, 0, 1);
        due.faulty("oats day1;", 1, 8);
        due.faulty("oats 1day;", 1, 6);
        due.faulty("oats 1 2;", 1, 7);
        due.faulty("oats 10000;", 2, 5);
        due.faulty("oats 00010000;", 2, 5);
        due.faulty("oats " + "9".repeat(200) + ";", 2, 5);
        due.faulty("oats 4294967296;", 2, 5);
        due.faulty("oats 4294967297;", 2, 5);
        due.faulty("oats 18446744073709551617;", 2, 5);
    }

    private static void signs() {
        due.of("<= >= < > = # + - * / ( ) ; ? : (the longest).");
        due.stands("steps if 1<=2and 2>=1or 1<2and not 2>1or 1=1and 1#2?(1+2-1)*2/3:2end;");
        due.faulty("oats if 1<==2?1:2end;", 1, 11);
        due.faulty("oats if 1>==2?1:2end;", 1, 11);
        due.faulty("oats if 1=<2?1:2end;", 1, 10);
        due.faulty("oats if 1=>2?1:2end;", 1, 10);
        due.faulty("oats if 1<>2?1:2end;", 1, 10);
        due.faulty("oats if 1><2?1:2end;", 1, 10);
        due.faulty("oats if 1<<2?1:2end;", 1, 10);
        due.faulty("oats if 1==2?1:2end;", 1, 10);
        due.faulty("oats if 1##2?1:2end;", 1, 10);
        due.faulty("oats if 1<", 1, 10);
        due.faulty("oats if 1<=", 1, 11);
        for (char sign : "!\"$%&',.@[\\]^_`{|}~".toCharArray()) {
            due.faulty("oats 1" + sign + ";", 1, 6);
        }
    }

    private static void clauses() {
        due.of("{CLAUSE}, 24 at most:");
        due.stands("");
        due.stands("pass 1;".repeat(24));
        due.stands("drive 1;".repeat(21) + "steps 1;stride 1;oats 1;");
        due.faulty("pass 1;".repeat(25), 6, 168);

        due.of("steps SUM ; or stride SUM ; or oats SUM ; (each once) or drive NUMBER ; "
            + "or pass NUMBER ;.");
        due.stands("oats 1; drive 1; stride 1; drive 1; steps 1; pass 1; pass 1;");
        due.faulty("steps 1; steps 1;", 4, 9);
        due.faulty("stride 1; stride 1;", 4, 10);
        due.faulty("oats 1; oats 1;", 4, 8);
        for (String word : new String[] {"steps", "stride", "oats", "drive", "pass"}) {
            int length = word.length();
            due.faulty(word, 1, length);
            due.faulty(word + ";", 1, length);
            due.faulty(word + " 1", 1, length + 2);
            due.faulty(word + " 1:", 1, length + 2);
            due.faulty(word + " 1;;", 1, length + 3);
            due.faulty(word + " " + word, 1, length + 1);
        }
        for (String word : new String[] {"drive", "pass"}) {
            int length = word.length();
            due.faulty(word + " -1;", 1, length + 1);
            due.faulty(word + " (1);", 1, length + 1);
            due.faulty(word + " day;", 1, length + 1);
            due.faulty(word + " 1+1;", 1, length + 2);
        }
        for (String other : new String[] {"1", "day", "if", "end", ";", "(", "-", "not", "gallop"}) {
            due.faulty(other + " 1;", 1, 0);
        }
    }

    private static void sums() {
        due.of("SUM: PRODUCT {+ or - PRODUCT}.");
        due.stands("oats 1;");
        due.stands("oats 1+2-3;");
        due.faulty("oats +1;", 1, 5);
        due.faulty("oats 1+;", 1, 7);
        due.faulty("oats 1-;", 1, 7);
        due.faulty("oats 1++2;", 1, 7);
        due.faulty("oats 1<2;", 1, 6);

        due.of("PRODUCT: ONE {* or / ONE}.");
        due.stands("oats 1*2/3;");
        due.faulty("oats *1;", 1, 5);
        due.faulty("oats 1*;", 1, 7);
        due.faulty("oats 1/;", 1, 7);
        due.faulty("oats 1*/2;", 1, 7);
    }

    private static void ones() {
        due.of("ONE: NUMBER, NAME, ( SUM ), - ONE, or if EITHER ? SUM : SUM end.");
        due.stands("oats 1*day*(1+1)*-1*if 1=1 ? 1+1 : 2+2 end;");
        due.stands("oats 1--1;");
        due.stands("oats -(1+1)*-day*-if 1=1?1:2 end;");
        due.faulty("oats ();", 1, 6);
        due.faulty("oats (1;", 1, 7);
        due.faulty("oats 1);", 1, 6);
        due.faulty("oats (1 2);", 1, 8);
        due.faulty("oats (1<2);", 1, 7);
        due.faulty("oats -;", 1, 6);
        due.faulty("oats not 1;", 1, 5);
        due.faulty("oats if 1=1 1 : 2 end;", 1, 12);
        due.faulty("oats if 1=1 ? : 2 end;", 1, 14);
        due.faulty("oats if 1=1 ? 1 2 end;", 1, 16);
        due.faulty("oats if 1=1 ? 1 end;", 1, 16);
        due.faulty("oats if 1=1 ? 1 : end;", 1, 18);
        due.faulty("oats if 1=1 ? 1 : 2;", 1, 19);
        due.faulty("oats if 1=1 : 1 ? 2 end;", 1, 12);
        due.faulty("oats if 1=1 ? 1 : 2 end end;", 1, 24);
        due.faulty("oats if ? 1 : 2 end;", 1, 8);
    }

    private static void eithers() {
        due.of("EITHER: BOTH {or BOTH}.");
        due.stands("oats if 1=1 or 1=2 or 1=3 ? 1 : 2 end;");
        due.faulty("oats if or 1=1 ? 1 : 2 end;", 1, 8);
        due.faulty("oats if 1=1 or ? 1 : 2 end;", 1, 15);
        due.faulty("oats if 1=1 or or 1=1 ? 1 : 2 end;", 1, 15);

        due.of("BOTH: ASK {and ASK}.");
        due.stands("oats if 1=1 and 1=2 and 1=3 or 1=1 and 1=2 ? 1 : 2 end;");
        due.faulty("oats if and 1=1 ? 1 : 2 end;", 1, 8);
        due.faulty("oats if 1=1 and ? 1 : 2 end;", 1, 16);
        due.faulty("oats if 1=1 and or 1=1 ? 1 : 2 end;", 1, 16);

        due.of("ASK: not ASK, or SUM one of < <= > >= = # (unlike) SUM.");
        due.stands("oats if not not 1=1 ? 1 : 2 end;");
        due.stands("oats if (1)+2=3*-1 ? 1 : 2 end;");
        due.faulty("oats if 1 ? 1 : 2 end;", 1, 10);
        due.faulty("oats if not ? 1 : 2 end;", 1, 12);
        due.faulty("oats if not 1 ? 1 : 2 end;", 1, 14);
        due.faulty("oats if (1=1) ? 1 : 2 end;", 1, 10);
        due.faulty("oats if not (1=1) ? 1 : 2 end;", 1, 14);
        due.faulty("oats if 1<2<3 ? 1 : 2 end;", 1, 11);
        due.faulty("oats if 1< ? 1 : 2 end;", 1, 11);
        due.faulty("oats if <1 ? 1 : 2 end;", 1, 8);
        due.faulty("oats if 1=not 1=1 ? 1 : 2 end;", 1, 10);
        due.faulty("oats if 1 + 1 ? 1 : 2 end;", 1, 14);
    }

    private static void feed() {
        due.of(8, "Twenty bytes come behind the tape, the highest of a first: how many it has.");
        for (int i = 0; i < 40; i++) {
            CountingHorses x = new CountingHorses();
            String tape = " ".repeat(i) + (char) 200 + " ".repeat(39 - i);
            for (int from = 0; from < 40; from += 20) {
                due.call(x, from + 20, "feed", Mails.four(tape, from), Mails.four(tape, from + 4),
                    Mails.four(tape, from + 8), Mails.four(tape, from + 12),
                    Mails.four(tape, from + 16));
            }
            due.call(x, NONE, "text");
            due.is("where a byte of 200 stands", x.fault(1), i);
        }
        CountingHorses y = new CountingHorses();
        // "oats 12+345-456*0;  "
        due.call(y, 20, "feed", 0x6f617473, 0x2031322b, 0x3334352d, 0x3435362a, 0x303b2020);
        due.call(y, 0, "text");
        y.horse(1, 1);
        y.by(0);
        due.call(y, 357, "would", 0, 0, 1);
    }

    private static void feedBeyond() {
        due.of(8, "NONE, and none come, if there would be more than 300.");
        CountingHorses x = new CountingHorses();
        for (int i = 1; i <= 15; i++) {
            due.call(x, i * 20, "feed", 0x20202020, 0x20202020, 0x20202020, 0x20202020, 0x20202020);
        }
        due.call(x, NONE, "feed", -1, -1, -1, -1, -1);
        due.call(x, 300, "about", 11);
        due.call(x, 281, "end", 281);
        due.call(x, NONE, "feed", -1, -1, -1, -1, -1);
        due.call(x, 281, "about", 11);
        due.call(x, NONE, "end", 282);
        due.call(x, 280, "end", 280);
        due.call(x, 300, "feed", 0x20202020, 0x20202020, 0x20202020, 0x20202020, 0x20202020);
        due.call(x, 0, "text");
        due.call(x, 0, "fault", 0);
        due.changesNothing(TextTest::nearlyFullTape, NONE, "feed", 1, 2, 3, 4, 5);
    }

    private static CountingHorses nearlyFullTape() {
        CountingHorses x = Mails.some();
        Mails.putOnTape(x, "pass 1;".repeat(40) + "!");
        return x;
    }

    private static void end() {
        due.of(9, "The tape has its first n bytes alone: n.");
        CountingHorses x = new CountingHorses();
        due.call(x, 0, "end", 0);
        Mails.putOnTape(x, "oats 1; pass 3;");
        due.call(x, 15, "end", 15);
        due.call(x, 15, "about", 11);
        due.call(x, 7, "end", 7);
        due.call(x, 7, "about", 11);
        due.call(x, NONE, "end", 8);
        x.feed(0x20706173, 0x7320343b, 0x20202020, 0x20202020, 0x20202020);
        due.call(x, 27, "about", 11);
        due.call(x, 0, "text");
        due.call(x, NONE, "played", 0);
        due.call(x, 4, "about", 3);
        Mails.putOnTape(x, "x".repeat(300));
        due.call(x, 300, "end", 300);
        due.call(x, 0, "end", 0);
        due.call(x, 1, "text");
        String[] cuts = {"oats day", "drive 56", "oats 1;x", "oats 10000", "oats if 1<="};
        int[][] faults = {{7, 1, 5}, {7, 1, 7}, {6, 1, 6}, {9, 1, 9}, {10, 1, 10}};
        for (int i = 0; i < cuts.length; i++) {
            Mails.putOnTape(x, cuts[i]);
            due.call(x, faults[i][0], "end", faults[i][0]);
            due.call(x, NONE, "text");
            due.call(x, faults[i][1], "fault", 0);
            due.call(x, faults[i][2], "fault", 1);
        }

        due.of(9, "NONE, and nothing is done, if it has not so many, or n is below 0.");
        due.changesNothing(Mails::empty, NONE, "end", 1);
        due.changesNothing(Mails::empty, NONE, "end", -1);
        for (int wrong : new int[] {-1, 16, 300, 301, LEAST, MOST}) {
            due.changesNothing(Mails::some, NONE, "end", wrong);
        }
        due.changesNothing(TextTest::nearlyFullTape, NONE, "end", 282);
    }

    private static void text() {
        due.of(10, "The tape (empty then) is a TEXT: its number.");
        CountingHorses x = new CountingHorses();
        due.call(x, 0, "text");
        for (int i = 1; i < 4; i++) {
            Mails.putOnTape(x, "pass " + i + ";");
            due.call(x, i, "text");
            due.call(x, 0, "about", 11);
            due.call(x, i + 1, "about", 6);
        }
        for (int i = 1; i < 4; i++) {
            int day = x.about(3);
            due.call(x, NONE, "played", i);
            due.call(x, day + i, "about", 3);
        }
        due.call(x, NONE, "about", 7);
    }

    private static void textOfNone() {
        due.of(10, "NONE: it has a FAULT; or (the tape stays) there are 4.");
        CountingHorses x = new CountingHorses();
        due.is("a fault", Mails.read(x, "oats 1"), NONE);
        due.call(x, 0, "about", 6);
        due.call(x, 0, "about", 11);
        due.is("numbers go on from those that were taken", Mails.read(x, "oats 1;"), 0);
        due.is("a fault", Mails.read(x, "oats 1"), NONE);
        due.call(x, 1, "about", 6);
        for (int i = 1; i < 4; i++) {
            due.is("a text", Mails.read(x, ""), i);
        }
        for (String text : new String[] {"pass 1;", "oats", ""}) {
            Mails.putOnTape(x, text);
            due.call(x, NONE, "text");
            due.call(x, text.length(), "about", 11);
            due.call(x, 0, "fault", 0);
            due.call(x, NONE, "fault", 1);
            due.call(x, 4, "about", 6);
        }
        due.changesNothing(Mails::full, NONE, "text");
        Mails.putOnTape(x, "pass 9;");
        x.text();
        x.back();
        due.is("the tape stayed", x.text(), 0);
        x.played(0);
        due.call(x, 9, "about", 3);
    }

    /** Of a text with a fault nothing is left in the one that is read behind it. */
    private static void nothingIsLeft() {
        CountingHorses x = Mails.three();
        String longFault = "oats 9" + "+9".repeat(140) + " x";
        for (int i = 0; i < 3; i++) {
            due.is("a long fault", Mails.read(x, longFault), NONE);
            due.is("a fault behind each law", Mails.read(x, "steps -9; stride -9; oats -9; x"), NONE);
            due.is("a fault behind orders", Mails.read(x, "pass 9; drive 0; x"), NONE);
        }
        due.is("an empty one", Mails.read(x, ""), 0);
        x.by(0);
        due.call(x, 4, "would", 0, 0, 2);
        due.call(x, 12, "would", 0, 0, 0);
        due.call(x, 1, "would", 0, 0, 1);
        due.call(x, NONE, "played", 0);
        due.call(x, 0, "about", 3);
        due.is("a long fault", Mails.read(x, longFault), NONE);
        due.is("a long fault", Mails.read(x, longFault), NONE);
        Mails.rule(x, "oats 1+2;");
        due.call(x, 3, "would", 0, 0, 1);
        due.is("a fault", Mails.read(x, "oats - - -1; x"), NONE);
        Mails.rule(x, "oats 1;");
        due.call(x, 1, "would", 0, 0, 1);
        due.is("a fault of steps", Mails.read(x, "steps 1; steps"), NONE);
        due.is("steps once", Mails.read(x, "steps 1;"), 3);
    }

    private static void fault() {
        due.of(11, "Of the latest text that was read: 0 its FAULT (0 without), 1 its place "
            + "(NONE without).");
        CountingHorses x = new CountingHorses();
        Mails.read(x, "oats 1; oats 1;");
        due.call(x, 4, "fault", 0);
        due.call(x, 8, "fault", 1);
        Mails.read(x, "oats 1;");
        due.call(x, 0, "fault", 0);
        due.call(x, NONE, "fault", 1);
        Mails.read(x, "!");
        due.call(x, 1, "fault", 0);
        due.call(x, 0, "fault", 1);
        Mails.putOnTape(x, "oats 99999;");
        due.call(x, 1, "fault", 0);
        x.by(0);
        due.call(x, 0, "fault", 1);

        due.of(11, "NONE for others, and ahead of any.");
        for (int wrong : new int[] {-1, 2, LEAST, MOST}) {
            due.changesNothing(Mails::some, NONE, "fault", wrong);
        }
        CountingHorses y = new CountingHorses();
        due.call(y, NONE, "fault", 0);
        due.call(y, NONE, "fault", 1);
        due.call(y, NONE, "fault", 2);
        Mails.putOnTape(y, "oats");
        due.call(y, NONE, "fault", 0);
        due.call(y, NONE, "fault", 1);
    }

    private static void by() {
        due.of("THE TEXT (told; at first none) rules.");
        CountingHorses x = Mails.three();
        due.call(x, NONE, "about", 7);
        Mails.read(x, "steps 9;");
        due.call(x, NONE, "about", 7);
        due.call(x, 4, "would", 0, 0, 2);
        x.by(0);
        due.call(x, 0, "about", 7);
        due.call(x, 9, "would", 0, 0, 2);
        due.call(x, 27, "drive", 0);

        due.of(12, "THE TEXT (NONE: none): true.");
        due.call(x, YES, "by", NONE);
        due.call(x, NONE, "about", 7);
        due.call(x, 12, "would", 0, 0, 0);
        due.call(x, YES, "by", NONE);
        for (int i = 1; i < 4; i++) {
            Mails.read(x, "steps " + i + ";");
            due.call(x, YES, "by", i);
            due.call(x, i, "about", 7);
            due.call(x, 3 * i, "would", 0, 0, 0);
        }
        due.call(x, YES, "by", 3);
        due.call(x, YES, "by", 0);
        due.call(x, 27, "would", 0, 0, 0);
        due.call(Mails.empty(), YES, "by", NONE);

        due.of(12, "False for others.");
        due.changesNothing(Mails::empty, NO, "by", 0);
        for (int wrong : new int[] {-2, 2, 3, 4, LEAST, MOST}) {
            due.changesNothing(Mails::some, NO, "by", wrong);
        }
        due.changesNothing(Mails::full, NO, "by", 4);
    }
}
