/** A drive, draws, days and the coach: the terms of part I, promises 13 to 16 and 19. */
public final class DriveTest {
    private static final int NONE = CountingHorses.NONE;
    private static final int NO = 0;
    private static final int YES = 1;
    private static final int LEAST = Integer.MIN_VALUE;
    private static final int MOST = Integer.MAX_VALUE;
    private static final Due due = new Due();

    public static void main(String[] args) {
        steps();
        strides();
        beyond();
        bridges();
        stops();
        eats();
        gone();
        draws();
        slips();
        draw();
        start();
        would();
        drive();
        pass();
        coach();
        due.close("DriveTest");
    }

    private static int drawn(int x, int times) {
        int value = x;
        for (int i = 0; i < times; i++) {
            value = (value * 193 + 89) % 30103;
        }
        return value;
    }

    private static void steps() {
        due.of("A DRIVE of a HORSE from a PLACE: STEPS: steps (0 at least, 99 at most; "
            + "without: COUNT).");
        int[][] told = {{-9999, 0}, {-1, 0}, {0, 0}, {1, 1}, {98, 98}, {99, 99}, {100, 99}, {9999, 99}};
        for (int[] t : told) {
            CountingHorses x = Mails.ruled("steps " + t[0] + "; stride 1;");
            due.call(x, t[1], "would", 0, 0, 2);
            due.call(x, t[1], "would", 0, 0, 0);
            due.call(x, t[1], "drive", 0);
        }
        CountingHorses x = Mails.three();
        due.call(x, 4, "would", 0, 0, 2);
        due.call(x, 7, "would", 2, 0, 2);
        Mails.rule(x, "stride 1; oats 1;");
        due.call(x, 4, "would", 0, 0, 2);
        due.call(x, 4, "would", 0, 0, 0);
        CountingHorses y = new CountingHorses();
        y.horse(99, 1);
        due.call(y, 99, "would", 0, 0, 0);
    }

    private static void strides() {
        due.of("STEP by STEP (from 1 on): it goes on by stride at the PLACE where it is "
            + "(0 at least, 9 at most; without: SHOE less MUD, 0 at least);");
        due.call(Mails.ruled("stride if step=1 ? 5 : 0 end;"), 5, "would", 0, 0, 0);
        due.call(Mails.ruled("stride if step=4 ? 5 : 0 end;"), 5, "would", 0, 0, 0);
        due.call(Mails.ruled("stride if step<1 or step>4 ? 5 : 0 end;"), 0, "would", 0, 0, 0);
        due.call(Mails.ruled("stride if place=7 ? 1 : 7 end;"), 7 + 1 + 7 + 7, "would", 0, 0, 0);
        int[][] told = {{-9999, 0}, {-1, 0}, {0, 0}, {1, 1}, {8, 8}, {9, 9}, {10, 9}, {9999, 9}};
        for (int[] t : told) {
            due.call(Mails.ruled("steps 1; stride " + t[0] + ";"), t[1], "would", 0, 0, 0);
        }
        for (int mud = 0; mud <= 9; mud++) {
            CountingHorses x = Mails.stepping(4);
            x.mud(0, 0, mud);
            due.call(x, Math.max(0, 4 - mud), "would", 0, 0, 0);
            Mails.rule(x, "steps 1; oats 1;");
            due.call(x, Math.max(0, 4 - mud), "would", 0, 0, 0);
            Mails.rule(x, "stride 4;");
            due.call(x, 4, "would", 0, 0, 0);
        }
        CountingHorses y = Mails.three();
        y.mud(3, 3, 1);
        y.mud(5, 5, 2);
        due.call(y, 3 + 2 + 1 + 3, "would", 0, 0, 0);
    }

    private static void beyond() {
        due.of("beyond 299 it is at 299;");
        int[][] told = {{9, 289, 298}, {9, 290, 299}, {9, 291, 299}, {9, 298, 299}, {1, 298, 299},
            {1, 297, 298}, {2, 298, 299}};
        for (int[] t : told) {
            due.call(Mails.stepping(t[0]), t[2], "would", 0, t[1], 0);
        }
        CountingHorses x = Mails.stepping(9);
        x.start(298);
        due.call(x, 299, "drive", 0);
        due.call(x, 299, "coach", 0);
    }

    private static void bridges() {
        due.of("if a BRIDGE is from where it is then (also if it went on by 0), it is where that "
            + "leads (the first one told; not again by another one in that STEP).");
        CountingHorses x = Mails.three();
        x.bridge(3, 50);
        x.bridge(3, 60);
        x.bridge(50, 70);
        x.bridge(100, 103);
        due.call(x, 50 + 9, "would", 0, 0, 0);
        due.call(x, 2 + 10, "would", 1, 2, 0);
        due.call(x, 3 + 12, "would", 0, 3, 0);
        due.call(x, 106 + 6, "would", 0, 97, 0);
        x.mud(50, 50, 9);
        due.call(x, 70 + 6, "would", 0, 0, 0);
        due.call(x, 70 + 5, "would", 1, 50, 0);
        Mails.rule(x, "steps 0;");
        due.call(x, 50, "would", 1, 50, 0);
        Mails.rule(x, "steps 1; stride 0;");
        due.call(x, 50, "would", 1, 3, 0);
        due.call(x, 70, "would", 1, 50, 0);
        due.call(x, 70, "would", 1, 70, 0);
    }

    private static void stops() {
        due.of("It STOPS behind the last STEP, and at 299 at once.");
        CountingHorses x = Mails.three();
        due.call(x, 20, "would", 1, 10, 0);
        x.bridge(20, 40);
        due.call(x, 40, "would", 1, 10, 0);
        x.bridge(30, 299);
        due.call(x, 299, "would", 1, 25, 0);
        x.start(25);
        due.call(x, 299, "drive", 1);
        due.is("one step, one draw", x.about(5), drawn(13, 1));
        due.call(x, 299, "would", 0, 299, 0);
        due.call(x, 0, "would", 0, 299, 1);
    }

    private static void eats() {
        due.of("It EATS oats (0 at least, 999 at most; without: GONE by 10, cut):");
        int[][] told = {{-9999, 0}, {-1, 0}, {0, 0}, {1, 1}, {998, 998}, {999, 999}, {1000, 999},
            {9999, 999}};
        for (int[] t : told) {
            CountingHorses x = Mails.ruled("oats " + t[0] + ";");
            due.call(x, t[1], "would", 0, 0, 1);
            x.drive(0);
            due.call(x, t[1], "coach", 1);
        }
        int[][] gone = {{9, 0}, {10, 1}, {11, 1}, {19, 1}, {20, 2}, {99, 9}};
        for (int[] g : gone) {
            CountingHorses x = new CountingHorses();
            x.horse(g[0], 1);
            due.call(x, g[1], "would", 0, 0, 1);
            Mails.rule(x, "steps count; stride shoe;");
            due.call(x, g[1], "would", 0, 0, 1);
        }
    }

    private static void gone() {
        due.of("GONE: how far it STOPS from where it set out.");
        CountingHorses x = Mails.ruled("oats gone;");
        due.call(x, 12, "would", 0, 0, 1);
        due.call(x, 12, "would", 0, 100, 1);
        due.call(x, 9, "would", 0, 290, 1);
        due.call(x, 0, "would", 0, 299, 1);
        x.bridge(6, 200);
        due.call(x, 206, "would", 0, 0, 1);
        x.weather(10, 0);
        x.start(20);
        x.drive(0);
        due.call(x, 8, "coach", 1);
        CountingHorses y = Mails.three();
        y.bridge(12, 299);
        due.call(y, 29, "would", 0, 0, 1);
    }

    private static void draws() {
        due.of("By hand at each STEP, but the one at which it is at 299 already, a draw:");
        CountingHorses x = Mails.three();
        x.drive(0);
        due.is("four steps without slip", x.about(5), drawn(13, 4));
        x.drive(2);
        due.is("seven steps more", x.about(5), drawn(13, 11));
        x.start(290);
        x.weather(0, 1);
        due.call(x, 299, "drive", 0);
        due.is("three steps to 299", x.about(5), drawn(20, 3));
        due.call(x, NONE, "drive", 0);
        due.is("none at 299", x.about(5), drawn(20, 3));
        Mails.rule(x, "steps 0;");
        x.start(5);
        due.call(x, 5, "drive", 0);
        due.is("none without a step", x.about(5), drawn(20, 3));
        x.would(0, 0, 0);
        x.harness(0, 12, NONE);
        due.is("none but by hand", x.about(5), drawn(20, 3));
    }

    private static void slips() {
        due.of("X mod 10 below SLIP: it goes on by one less (0 at least);");
        for (int slip = 0; slip <= 10; slip++) {
            CountingHorses x = Mails.stepping(5);
            // These begin with a last digit of 3, 0, 7 and 9.
            for (int seed : new int[] {0, 1, 2, 8}) {
                int digit = (seed * 7 + 13) % 10;
                x.weather(slip, seed);
                x.start(100);
                due.is("slip " + slip + ", digit " + digit, x.drive(0), digit < slip ? 104 : 105);
            }
        }
        CountingHorses y = Mails.stepping(1);
        y.weather(10, 0);
        due.call(y, 0, "drive", 0);
        y.mud(0, 0, 9);
        due.call(y, 0, "drive", 0);
        y.bridge(0, 8);
        due.call(y, 8, "drive", 0);
        Mails.rule(y, "stride 10;");
        due.call(y, 16, "drive", 0);
        Mails.rule(y, "stride 0-5;");
        due.call(y, 16, "drive", 0);
        y.start(292);
        Mails.rule(y, "stride 9;");
        due.call(y, 299, "drive", 0);
        y.start(291);
        due.call(y, 299, "drive", 0);
        y.start(290);
        due.call(y, 298, "drive", 0);
    }

    private static void draw() {
        due.of("X is (X * 193 + 89) mod 30103 behind it.");
        CountingHorses x = Mails.stepping(1);
        for (int seed : new int[] {0, 1, 4298, 4299, 4300, 9998}) {
            x.weather(5, seed);
            x.drive(0);
            due.is("X of seed " + seed, x.about(5), ((seed * 7 + 13) * 193L + 89) % 30103);
        }
        x.weather(5, 9999);
        x.drive(0);
        due.call(x, 25103, "about", 5);
        x.weather(5, 0);
        x.drive(0);
        due.call(x, 2598, "about", 5);
        x.drive(0);
        due.call(x, 19855, "about", 5);
    }

    private static void start() {
        due.of(13, "THE COACH is at a PLACE, OATS and DRIVES 0 (STEPS BACK are forgotten): true.");
        CountingHorses x = Mails.some();
        int drawn = x.about(5);
        due.call(x, YES, "start", 299);
        due.call(x, 299, "coach", 0);
        due.call(x, 0, "coach", 1);
        due.call(x, 0, "coach", 2);
        due.call(x, 0, "about", 8);
        due.call(x, NONE, "undo");
        due.call(x, 2, "about", 3);
        due.call(x, drawn, "about", 5);
        due.call(x, 3, "about", 4);
        due.call(x, 7, "about", 20);
        due.call(x, YES, "start", 0);
        due.call(x, 0, "coach", 0);
        due.call(x, YES, "start", 0);
        x.pass(1);
        due.call(x, 0, "undo");

        due.of(13, "False for others.");
        for (int wrong : new int[] {-1, 300, LEAST, MOST}) {
            due.changesNothing(Mails::some, NO, "start", wrong);
        }
    }

    private static void would() {
        due.of(14, "Of a DRIVE of a HORSE from a PLACE, without SLIP: 0 where it STOPS, "
            + "1 what it EATS, 2 STEPS (as steps tells, also from 299).");
        CountingHorses x = Mails.three();
        x.weather(10, 3);
        due.call(x, 112, "would", 0, 100, 0);
        due.call(x, 1, "would", 0, 100, 1);
        due.call(x, 4, "would", 0, 100, 2);
        due.call(x, 299, "would", 2, 299, 0);
        due.call(x, 7, "would", 2, 299, 2);
        Mails.rule(x, "steps place/10+mud; oats gone+5;");
        x.mud(299, 299, 4);
        due.call(x, 33, "would", 2, 299, 2);
        due.call(x, 5, "would", 2, 299, 1);
        due.call(x, 299, "would", 2, 299, 0);
        due.call(x, 29, "would", 2, 290, 2);
        due.changesNothing(Mails::some, 20, "would", 1, 11, 0);
        due.changesNothing(Mails::some, 9 / 3 + 1, "would", 1, 11, 1);
        due.changesNothing(Mails::some, 3, "would", 1, 11, 2);

        due.of(14, "NONE for others.");
        int[][] wrong = {{-1, 0, 0}, {3, 0, 0}, {0, -1, 0}, {0, 300, 0}, {0, 0, -1}, {0, 0, 3},
            {LEAST, 0, 0}, {MOST, 0, 0}, {0, LEAST, 0}, {0, MOST, 0}, {0, 0, LEAST}, {0, 0, MOST},
            {-1, 0, 2}, {3, 0, 2}, {0, -1, 2}, {0, 300, 2}, {5, 0, 1}, {6, 0, 1}};
        for (int[] w : wrong) {
            due.changesNothing(Mails::some, NONE, "would", w[0], w[1], w[2]);
        }
        due.changesNothing(Mails::full, NONE, "would", 6, 0, 0);
        due.changesNothing(Mails::empty, NONE, "would", 0, 0, 2);
    }

    private static void drive() {
        due.of(15, "A DRIVE by hand: where it STOPS.");
        CountingHorses x = Mails.three();
        due.call(x, 12, "drive", 0);
        due.call(x, 22, "drive", 1);
        due.call(x, 29, "drive", 2);
        due.call(x, 1 + 1 + 0, "coach", 1);
        due.call(x, 3, "coach", 2);
        due.call(x, 3, "about", 8);
        Mails.rule(x, "stride 9; steps 99; oats 100;");
        due.call(x, 299, "drive", 0);
        due.call(x, 102, "coach", 1);
        due.call(x, 4, "coach", 2);

        due.of(15, "NONE for others, and at 299.");
        for (int wrong : new int[] {-1, 3, 5, 6, LEAST, MOST}) {
            due.changesNothing(Mails::some, NONE, "drive", wrong);
        }
        due.changesNothing(Mails::full, NONE, "drive", 6);
        due.changesNothing(Mails::empty, NONE, "drive", 0);
        due.changesNothing(DriveTest::atThePalace, NONE, "drive", 0);
        CountingHorses y = Mails.three();
        y.start(298);
        due.call(y, 299, "drive", 2);
    }

    private static CountingHorses atThePalace() {
        CountingHorses x = Mails.three();
        x.start(298);
        x.drive(2);
        return x;
    }

    private static void pass() {
        due.of(16, "DAYS go by (1 .. 99): DAY.");
        CountingHorses x = Mails.three();
        due.call(x, 1, "pass", 1);
        due.call(x, 100, "pass", 99);
        due.call(x, 100, "about", 3);

        due.of(16, "NONE for others, or beyond 999.");
        for (int wrong : new int[] {0, -1, 100, LEAST, MOST, MOST - 1}) {
            due.changesNothing(Mails::some, NONE, "pass", wrong);
        }
        for (int i = 0; i < 9; i++) {
            x.pass(99);
        }
        due.call(x, NONE, "pass", 9);
        due.call(x, NONE, "pass", 99);
        due.call(x, 991, "about", 3);
        due.call(x, 999, "pass", 8);
        due.call(x, NONE, "pass", 1);
        due.call(x, 999, "about", 3);
        due.changesNothing(DriveTest::lateInTheYear, NONE, "pass", 10);
        due.call(x, 29, "undo");
        due.call(x, 999, "pass", 1);
    }

    private static CountingHorses lateInTheYear() {
        CountingHorses x = Mails.three();
        for (int i = 0; i < 10; i++) {
            x.pass(99);
        }
        return x;
    }

    private static void coach() {
        due.of(19, "THE COACH: 0 PLACE, 1 OATS, 2 DRIVES, 3 the INN there (NONE; the lowest).");
        CountingHorses x = Mails.three();
        due.call(x, NONE, "coach", 3);
        x.inn(3);
        x.inn(22);
        x.inn(22);
        x.inn(299);
        due.call(x, NONE, "coach", 3);
        x.drive(0);
        x.drive(1);
        due.call(x, 22, "coach", 0);
        due.call(x, 2, "coach", 1);
        due.call(x, 2, "coach", 2);
        due.call(x, 1, "coach", 3);
        x.move(1, 21);
        due.call(x, 2, "coach", 3);
        x.move(0, 22);
        due.call(x, 0, "coach", 3);
        x.start(299);
        due.call(x, 3, "coach", 3);
        x.start(0);
        due.call(x, NONE, "coach", 3);
        due.changesNothing(Mails::full, 24, "coach", 0);

        due.of(19, "NONE for others.");
        for (int wrong : new int[] {-1, 4, LEAST, MOST}) {
            due.changesNothing(Mails::some, NONE, "coach", wrong);
        }
    }
}
