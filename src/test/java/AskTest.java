/** Harness, least oats and thief: the terms of part III, promises 20 to 22. */
public final class AskTest {
    private static final int NONE = CountingHorses.NONE;
    private static final int LEAST = Integer.MIN_VALUE;
    private static final int MOST = Integer.MAX_VALUE;
    private static final Due due = new Due();

    public static void main(String[] args) {
        withoutSlip();
        byDay();
        harnessed();
        fewest();
        fewestOats();
        lowest();
        harness();
        leastOats();
        fewestDrives();
        least();
        thieves();
        thief();
        due.close("AskTest");
    }

    /** Horses of one step each. */
    private static CountingHorses shod(int... shoes) {
        CountingHorses x = new CountingHorses();
        for (int shoe : shoes) {
            x.horse(1, shoe);
        }
        return x;
    }

    private static void withoutSlip() {
        due.of("==== III. All that follows is without SLIP, by DAY as it is.");
        CountingHorses x = Mails.three();
        x.weather(10, 3);
        x.inn(12);
        x.seen(12);
        x.tried(0, 0, 12);
        Mails.read(x, "");
        due.call(x, 1, "harness", 0, 12, NONE);
        due.call(x, 1, "least", 0, 12, false);
        due.call(x, 1, "thief", 0, 29, NONE);
        due.call(x, 1, "who", 0, 0);
        due.call(x, 1, "who", 0, NONE);
        due.call(x, 1, "taught");
        due.call(x, 0, "never");
        due.call(x, 34, "about", 5);
        due.call(x, 0, "coach", 0);
        due.call(x, 0, "about", 8);
    }

    private static void byDay() {
        CountingHorses x = shod(1, 2, 3);
        Mails.rule(x, "stride shoe+day; oats day;");
        x.inn(0);
        x.inn(299);
        x.inn(1);
        x.seen(4);
        x.tried(0, 0, 4);
        asksOfDay(x, 3, 0, 2, 1, 0, 1);
        x.pass(3);
        asksOfDay(x, 1, 3, 1, 0, 1, 1 + 4);
        x.pass(1);
        due.call(x, 0, "who", 0, 0);
        x.undo();
        asksOfDay(x, 1, 3, 1, 0, 1, 1 + 4);
        x.image();
        for (int i = 0; i < 3; i++) {
            x.undo();
        }
        asksOfDay(x, 3, 0, 2, 1, 0, 1);
        x.back();
        asksOfDay(x, 1, 3, 1, 0, 1, 1 + 4);
    }

    private static void asksOfDay(CountingHorses x, int team, int oats, int drives, int thieves,
        int fourth, int never) {
        due.call(x, team, "harness", 0, 6, NONE);
        due.call(x, oats, "least", 0, 4, false);
        due.call(x, drives, "least", 0, 4, true);
        due.call(x, thieves, "thief", 0, 6, NONE);
        due.call(x, fourth, "who", 0, 0);
        due.call(x, fourth, "who", 0, NONE);
        due.call(x, fourth, "taught");
        due.call(x, never, "never");
    }

    private static void harnessed() {
        due.of("HARNESS from a PLACE to another one: HORSES, each once at most, one DRIVE behind the "
            + "other, the last of which STOPS just there (none, if it is there):");
        CountingHorses x = Mails.three();
        due.call(x, 3, "harness", 0, 29, NONE);
        due.call(x, -3, "harness", 0, 24, NONE);
        due.call(x, -3, "harness", 0, 30, NONE);
        due.call(x, -3, "harness", 0, 11, NONE);
        due.call(x, -3, "harness", 20, 10, NONE);
        for (int place : new int[] {0, 9, 298, 299}) {
            due.call(x, 0, "harness", place, place, NONE);
            due.call(x, 0, "harness", place, place, -2);
            due.call(x, -3, "harness", place, place, 0);
        }
        due.call(x, 2, "harness", 280, 299, NONE);
        due.call(x, 1, "harness", 288, 299, NONE);
        // Passed by, not stopped at.
        due.call(x, -3, "harness", 0, 3, NONE);
        x.bridge(12, 200);
        due.call(x, -3, "harness", 0, 12, NONE);
        due.call(x, 1, "harness", 0, 200, NONE);
        due.call(x, 0, "harness", 12, 12, NONE);
        CountingHorses six = shod(1, 2, 3, 4, 5, 6);
        due.call(six, 6, "harness", 0, 21, NONE);
        due.call(six, -3, "harness", 0, 22, NONE);
        due.call(six, 5, "harness", 0, 20, NONE);
        due.call(Mails.empty(), 0, "harness", 7, 7, NONE);
        due.call(Mails.empty(), -3, "harness", 7, 8, NONE);
    }

    private static void fewest() {
        due.of("the fewest;");
        CountingHorses x = shod(1, 2, 3, 6);
        Mails.rule(x, "oats if horse=3 ? 900 : 1 end;");
        due.call(x, 1, "harness", 0, 6, NONE);
        due.call(x, 3, "harness", 0, 6, 0);
        due.call(x, 900, "harness", 0, 6, -2);
        due.call(x, 2, "harness", 0, 5, NONE);
        due.call(x, 2, "harness", 0, 9, NONE);
    }

    private static void fewestOats() {
        due.of("of like ones the fewest OATS together,");
        CountingHorses x = new CountingHorses();
        x.horse(1, 5);
        x.horse(5, 1);
        x.horse(1, 9);
        x.horse(1, 1);
        Mails.rule(x, "oats 9-horse;");
        due.call(x, 1, "harness", 0, 5, 0);
        due.call(x, 8, "harness", 0, 5, -2);
        due.call(x, 2, "harness", 0, 10, NONE);
        due.call(x, 2, "harness", 0, 10, 0);
        due.call(x, 3, "harness", 0, 10, 1);
        due.call(x, 7 + 6, "harness", 0, 10, -2);
        // Now it is the other two who eat less.
        Mails.rule(x, "oats if horse<2 ? 5 : 6 end;");
        due.call(x, 10, "harness", 0, 10, -2);
        due.call(x, 0, "harness", 0, 10, 0);
        due.call(x, 1, "harness", 0, 10, 1);
        CountingHorses most = shod(1, 1, 1, 1, 1, 1);
        Mails.rule(most, "oats 999;");
        due.call(most, 6 * 999, "harness", 0, 6, -2);
        Mails.rule(most, "oats if horse=0 or horse=3 ? 2 : 1 end;");
        due.call(most, 4, "harness", 0, 4, -2);
        int[] cheapest = {1, 2, 4, 5};
        for (int i = 0; i < 4; i++) {
            due.call(most, cheapest[i], "harness", 0, 4, i);
        }
    }

    private static void lowest() {
        due.of("then the lowest first HORSE, then second, .. .");
        harnessIs(shod(5, 5, 2, 3), 5, 0);
        harnessIs(shod(5, 5, 2, 3), 7, 0, 2);
        harnessIs(shod(5, 5, 2, 3), 10, 0, 1);
        harnessIs(shod(5, 5, 2, 3), 12, 0, 1, 2);
        harnessIs(shod(1, 4, 4), 5, 0, 1);
        harnessIs(shod(1, 1, 1, 1, 1, 1), 6, 0, 1, 2, 3, 4, 5);
        harnessIs(shod(9, 1, 2, 2, 1), 3, 1, 2);
        CountingHorses x = shod(5, 3, 3, 5);
        x.bridge(3, 50);
        harnessIs(x, 55, 1, 0);
        harnessIs(x, 60, 1, 0, 3);
        harnessIs(x, 58, 1, 0, 2);
    }

    private static void harnessIs(CountingHorses x, int to, int... horses) {
        due.call(x, horses.length, "harness", 0, to, NONE);
        for (int i = 0; i < horses.length; i++) {
            due.call(x, horses[i], "harness", 0, to, i);
        }
        due.call(x, -3, "harness", 0, to, horses.length);
    }

    private static void harness() {
        due.of(20, "HARNESS: how many HORSES (i NONE), all OATS together (-2); the i-th HORSE.");
        CountingHorses x = Mails.three();
        due.call(x, 3, "harness", 0, 29, -1);
        due.call(x, 2, "harness", 0, 29, -2);
        for (int i = 0; i < 3; i++) {
            due.call(x, i, "harness", 0, 29, i);
        }
        due.call(x, 2, "harness", 0, 17, -1);
        due.call(x, 1, "harness", 0, 17, 0);
        due.call(x, 2, "harness", 0, 17, 1);
        due.call(x, 1, "harness", 0, 17, -2);
        due.changesNothing(Mails::some, 0, "harness", 7, 7, NONE);
        due.changesNothing(Mails::some, 2, "harness", 50, 58, 0);
        due.changesNothing(Mails::some, 15 / 3 + 1, "harness", 50, 65, -2);

        due.of(20, "-3: none, there is none such, and for others.");
        int[][] wrong = {{0, 28, -1}, {0, 28, -2}, {0, 28, 0}, {0, 29, 3}, {0, 17, 2}, {0, 29, -3},
            {5, 5, 0}, {-1, 0, -1}, {300, 0, -1}, {0, -1, -2}, {0, 300, -2}, {300, 300, -1},
            {-1, -1, -1}, {0, 29, LEAST}, {0, 29, MOST}, {LEAST, 29, 0}, {0, MOST, 0}};
        for (int[] w : wrong) {
            due.changesNothing(Mails::three, -3, "harness", w[0], w[1], w[2]);
        }
    }

    private static void leastOats() {
        due.of("LEAST OATS from a PLACE to another one, each HORSE as often as one likes: "
            + "the fewest OATS together,");
        CountingHorses x = new CountingHorses();
        x.horse(4, 3);
        due.call(x, 1, "least", 0, 12, false);
        due.call(x, 10, "least", 0, 120, false);
        due.call(x, 25, "least", 0, 299, false);
        due.call(x, NONE, "least", 0, 121, false);
        CountingHorses y = shod(9, 1);
        Mails.rule(y, "oats if horse=0 ? 20 : 2 end;");
        due.call(y, 36, "least", 0, 18, false);
        due.call(y, 18, "least", 0, 18, true);
        Mails.rule(y, "oats if horse=0 ? 20 : 3 end;");
        due.call(y, 40, "least", 0, 18, false);
        due.call(y, 2, "least", 0, 18, true);
        Mails.rule(y, "oats 999; stride 1;");
        due.call(y, 299 * 999, "least", 0, 299, false);
        due.call(y, 299, "least", 0, 299, true);
        // Cheaper over a place far on, by a bridge that is come to from one place alone.
        CountingHorses z = shod(9, 1);
        z.bridge(3, 250);
        Mails.rule(z, "oats if gone>9 ? 0 : 10 end;");
        due.call(z, 20, "least", 0, 250, false);
        due.call(z, 3, "least", 0, 250, true);
    }

    private static void fewestDrives() {
        due.of("of like ones the fewest DRIVES (0 and 0, if it is there).");
        CountingHorses x = shod(1, 9);
        due.call(x, 0, "least", 0, 18, false);
        due.call(x, 2, "least", 0, 18, true);
        due.call(x, 3, "least", 0, 19, true);
        Mails.rule(x, "oats gone;");
        due.call(x, 18, "least", 0, 18, false);
        due.call(x, 2, "least", 0, 18, true);
        Mails.rule(x, "oats 5;");
        for (int place : new int[] {0, 7, 299}) {
            due.call(x, 0, "least", place, place, false);
            due.call(x, 0, "least", place, place, true);
        }
        due.call(Mails.empty(), 0, "least", 7, 7, true);
    }

    private static void least() {
        due.of(21, "LEAST OATS: these (drives false), how many DRIVES.");
        CountingHorses x = new CountingHorses();
        x.horse(4, 3);
        Mails.rule(x, "oats 7;");
        due.call(x, 21, "least", 0, 36, false);
        due.call(x, 3, "least", 0, 36, true);
        due.changesNothing(Mails::some, 0, "least", 7, 7, true);

        due.of(21, "NONE: none, and for others.");
        due.changesNothing(Mails::three, NONE, "least", 12, 0, false);
        due.changesNothing(Mails::three, NONE, "least", 0, 6, true);
        due.changesNothing(Mails::empty, NONE, "least", 0, 1, false);
        int[][] wrong = {{-1, 5}, {300, 300}, {0, -1}, {0, 300}, {-1, -1}, {LEAST, 5}, {0, LEAST},
            {MOST, MOST}, {0, MOST}};
        for (int[] w : wrong) {
            due.changesNothing(Mails::some, NONE, "least", w[0], w[1], false);
            due.changesNothing(Mails::some, NONE, "least", w[0], w[1], true);
        }
    }

    private static void thieves() {
        due.of("sets of three HORSES that in some order, one DRIVE of each, lead from a PLACE to "
            + "another one:");
        CountingHorses x = shod(1, 2, 3, 4, 5);
        due.call(x, 1, "thief", 0, 6, NONE);
        due.call(x, 7, "thief", 0, 6, 0);
        due.call(x, 0, "thief", 0, 5, NONE);
        due.call(x, 0, "thief", 0, 13, NONE);
        due.call(x, 1, "thief", 0, 12, NONE);
        due.call(x, 28, "thief", 0, 12, 0);
        due.call(x, 10, "thief", 299, 299, NONE);
        due.call(x, 10, "thief", 298, 299, NONE);
        due.call(x, 0, "thief", 7, 7, NONE);
        due.call(x, 0, "thief", 7, 6, NONE);
        x.bridge(5, 100);
        due.call(x, 1, "thief", 0, 106, NONE);
        due.call(x, 16 + 8 + 2, "thief", 0, 106, 0);
        due.call(Mails.three(), 1, "thief", 0, 29, NONE);
        due.call(Mails.three(), 0, "thief", 0, 12, NONE);
        CountingHorses two = shod(1, 2);
        two.mud(0, 299, 9);
        due.call(two, 0, "thief", 7, 7, NONE);
        two.horse(1, 3);
        due.call(two, 1, "thief", 7, 7, NONE);
        due.call(two, 0, "thief", 7, 8, NONE);
        CountingHorses six = shod(1, 1, 1, 1, 1, 1);
        due.call(six, 20, "thief", 0, 3, NONE);

        due.of("how many, the i-th by number.");
        int found = 0;
        for (int set = 0; set < 64; set++) {
            if (Integer.bitCount(set) == 3) {
                due.call(six, set, "thief", 0, 3, found);
                found++;
            }
        }
        due.call(six, NONE, "thief", 0, 3, 20);
    }

    private static void thief() {
        due.of(22, "THIEF: how many sets (i NONE), the i-th (bits).");
        CountingHorses x = shod(1, 2, 3, 4, 5);
        due.call(x, 2, "thief", 0, 8, NONE);
        due.call(x, 1 + 4 + 8, "thief", 0, 8, 0);
        due.call(x, 1 + 2 + 16, "thief", 0, 8, 1);
        due.call(Mails.empty(), 0, "thief", 0, 0, NONE);
        due.changesNothing(Mails::some, 1, "thief", 299, 299, NONE);

        due.of(22, "NONE if there is none such, and for others.");
        due.call(x, NONE, "thief", 0, 8, 2);
        due.call(x, NONE, "thief", 0, 5, 0);
        due.changesNothing(Mails::empty, NONE, "thief", 0, 0, 0);
        int[][] wrong = {{0, 29, 1}, {0, 28, 0}, {0, 29, -2}, {-1, 29, -1}, {300, 29, -1},
            {0, -1, -1}, {0, 300, -1}, {0, 29, LEAST}, {0, 29, MOST}, {LEAST, 29, -1},
            {0, MOST, -1}, {300, 300, -1}, {-1, -1, -1}};
        for (int[] w : wrong) {
            due.changesNothing(Mails::three, NONE, "thief", w[0], w[1], w[2]);
        }
    }
}
