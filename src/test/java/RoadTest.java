/** The road, its inns, the horses and the weather: the terms' first lines, promises 1 to 7. */
public final class RoadTest {
    private static final int NONE = CountingHorses.NONE;
    private static final int NO = 0;
    private static final int YES = 1;
    private static final int LEAST = Integer.MIN_VALUE;
    private static final int MOST = Integer.MAX_VALUE;
    private static final Due due = new Due();

    public static void main(String[] args) {
        calls();
        constants();
        places();
        mudOfEach();
        bridgesAndInns();
        horses();
        horsesNotToldYet();
        coachAndDay();
        aNewObject();
        mud();
        mudOfOthers();
        bridge();
        bridgeOfOthers();
        inn();
        innOfOthers();
        move();
        moveOfOthers();
        horse();
        horseOfOthers();
        weather();
        weatherOfOthers();
        due.close("RoadTest");
    }

    private static void calls() {
        due.of("An object is used for at most 512 calls after it has been made; "
            + "what later calls answer is free.");
        CountingHorses x = Mails.three();
        for (int call = 4; call <= 509; call += 3) {
            x.move(0, call % 300);
            x.drive(2);
            due.is("call " + (call + 2), x.undo(), 0);
        }
        due.is("call 511", x.about(5), 13);
        due.is("call 512", x.would(0, 3, 0), 15);
        for (int later = 513; later < 1500; later++) {
            x.feed(later, later, later, later, later);
            x.text();
            x.pass(99);
            x.drive(later % 7 - 1);
        }
    }

    private static void constants() {
        due.of("The constants: `NONE = -1`: None.");
        due.is("NONE", NONE, -1);
    }

    private static void places() {
        due.of("THE ROAD: PLACES 0 .. 299.");
        for (int wrong : new int[] {LEAST, -300, -2, -1, 300, 301, MOST}) {
            due.changesNothing(Mails::some, NO, "mud", wrong, 299, 1);
            due.changesNothing(Mails::some, NO, "mud", 0, wrong, 1);
            due.changesNothing(Mails::some, NONE, "bridge", wrong, 299);
            due.changesNothing(Mails::some, NONE, "bridge", 0, wrong);
            due.changesNothing(Mails::some, NONE, "inn", wrong);
            due.changesNothing(Mails::some, NO, "move", 0, wrong);
            due.changesNothing(Mails::some, NO, "start", wrong);
            due.changesNothing(Mails::some, NONE, "would", 0, wrong, 0);
            due.changesNothing(Mails::some, -3, "harness", wrong, 299, NONE);
            due.changesNothing(Mails::some, -3, "harness", 0, wrong, NONE);
            due.changesNothing(Mails::some, NONE, "least", wrong, 299, false);
            due.changesNothing(Mails::some, NONE, "least", 0, wrong, true);
            due.changesNothing(Mails::some, NONE, "thief", wrong, 299, NONE);
            due.changesNothing(Mails::some, NONE, "thief", 0, wrong, NONE);
            due.changesNothing(Mails::some, -2, "who", wrong, 0);
            due.changesNothing(Mails::some, -2, "who", wrong, NONE);
            due.changesNothing(Mails::some, -2, "tried", 0, wrong, 0);
            due.changesNothing(Mails::some, -2, "tried", 0, 0, wrong);
            if (wrong != NONE) {
                due.changesNothing(Mails::some, -2, "seen", wrong);
            }
        }
        for (int place : new int[] {0, 299}) {
            CountingHorses x = Mails.three();
            due.call(x, YES, "mud", place, place, 1);
            due.call(x, 1, "inn", place);
            due.call(x, YES, "move", 0, 299 - place);
            due.call(x, YES, "start", place);
            due.call(x, place == 0 ? 11 : 299, "would", 0, place, 0);
            due.call(x, 0, "harness", place, place, NONE);
            due.call(x, 0, "least", place, place, false);
            due.call(x, place == 0 ? 0 : 1, "thief", place, place, NONE);
            due.call(x, 1, "who", place, NONE);
            due.call(x, 1, "tried", 0, place, place);
            due.call(x, 1, "seen", place);
        }
        due.call(Mails.empty(), 1, "bridge", 0, 299);
    }

    private static void mudOfEach() {
        due.of("MUD 0 .. 9 of each (told for a span; at first 0).");
        CountingHorses x = new CountingHorses();
        for (int place = 0; place < 300; place++) {
            due.call(x, 0, "about", 100 + place);
        }
        due.call(x, YES, "mud", 10, 20, 9);
        int[][] depths = {{9, 0}, {10, 9}, {15, 9}, {20, 9}, {21, 0}};
        for (int[] of : depths) {
            due.call(x, of[1], "about", 100 + of[0]);
        }
        due.call(x, YES, "mud", 12, 13, 0);
        due.call(x, 9, "about", 111);
        due.call(x, 0, "about", 112);
        due.call(x, 0, "about", 113);
        due.call(x, 9, "about", 114);
        due.changesNothing(Mails::some, NO, "mud", 10, 20, -1);
        due.changesNothing(Mails::some, NO, "mud", 10, 20, 10);
    }

    private static void bridgesAndInns() {
        due.of("BRIDGES (4 at most): from a PLACE to a later one.");
        CountingHorses x = new CountingHorses();
        for (int i = 1; i <= 4; i++) {
            due.call(x, i, "bridge", 10 * i, 10 * i + 1);
        }
        due.call(x, NONE, "bridge", 1, 2);
        due.call(x, 4, "about", 1);
        x.horse(1, 1);
        for (int i = 1; i <= 4; i++) {
            due.call(x, 10 * i + 1, "would", 0, 10 * i - 1, 0);
        }
        due.changesNothing(Mails::some, NONE, "bridge", 50, 50);
        due.changesNothing(Mails::some, NONE, "bridge", 50, 49);

        due.of("INNS (10 at most): PLACES.");
        CountingHorses y = new CountingHorses();
        for (int i = 1; i <= 10; i++) {
            due.call(y, i, "inn", 300 - i);
        }
        due.call(y, NONE, "inn", 0);
        due.call(y, 10, "about", 2);
        for (int i = 0; i < 10; i++) {
            due.call(y, 299 - i, "about", 20 + i);
        }
    }

    private static void horses() {
        due.of("HORSES 0 .. 5 (told one by one): COUNT (1 .. 99), SHOE (1 .. 9).");
        CountingHorses x = new CountingHorses();
        int[][] told = {{1, 1}, {99, 9}, {1, 9}, {99, 1}, {2, 8}, {98, 2}};
        int[] stops = {1, 299, 9, 99, 16, 196};
        for (int i = 0; i < 6; i++) {
            due.call(x, NONE, "would", i, 0, 0);
            due.call(x, i, "horse", told[i][0], told[i][1]);
            due.call(x, stops[i], "would", i, 0, 0);
            due.call(x, told[i][0], "would", i, 0, 2);
        }
        due.call(x, NONE, "would", 6, 0, 0);
        int[][] wrong = {{0, 1}, {100, 1}, {-1, 5}, {1, 0}, {1, 10}, {5, -1}, {LEAST, 1},
            {MOST, 1}, {1, LEAST}, {1, MOST}};
        for (int[] w : wrong) {
            due.changesNothing(Mails::some, NONE, "horse", w[0], w[1]);
        }
    }

    /** One is told, and a law by which the next one would stop where that one never does. */
    private static void horsesNotToldYet() {
        CountingHorses x = new CountingHorses();
        Mails.rule(x, "steps 1; stride if horse=0 ? 9 : 4 end;");
        x.inn(5);
        x.seen(4);
        for (int horses = 0; horses < 6; horses++) {
            boolean second = horses > 1;
            due.call(x, second ? 1 : -3, "harness", 0, 4, NONE);
            due.call(x, second ? 1 : NONE, "least", 0, 4, true);
            due.call(x, second ? (1 << horses) - 2 : 0, "who", 0, 0);
            due.call(x, second ? horses - 1 : 0, "who", 0, NONE);
            due.call(x, second ? 0 : 1, "never");
            due.call(x, new int[] {0, 0, 0, 1, 3, 6}[horses], "thief", 0, 17, NONE);
            due.call(x, NONE, "drive", horses);
            due.call(x, -2, "tried", horses, 0, 4);
            due.call(x, horses, "horse", 1, 1);
        }
        due.call(x, 1, "least", 0, 4, true);
        due.call(x, 62, "who", 0, 0);
        due.call(x, 0, "never");
        due.call(x, 10, "thief", 0, 17, NONE);
    }

    private static void coachAndDay() {
        due.of("THE COACH: at a PLACE (at first 0), OATS (eaten so far, at first 0), "
            + "DRIVES (at first 0).");
        CountingHorses x = Mails.three();
        due.call(x, 0, "coach", 0);
        due.call(x, 0, "coach", 1);
        due.call(x, 0, "coach", 2);
        x.drive(0);
        x.drive(1);
        due.call(x, 22, "coach", 0);
        due.call(x, 1 + 1, "coach", 1);
        due.call(x, 2, "coach", 2);

        due.of("DAY 0 .. 999 (at first 0).");
        CountingHorses y = Mails.three();
        due.call(y, 0, "about", 3);
        for (int i = 1; i <= 10; i++) {
            due.call(y, 99 * i, "pass", 99);
        }
        due.call(y, NONE, "pass", 10);
        due.call(y, 999, "pass", 9);
        due.call(y, NONE, "pass", 1);
        due.call(y, 999, "about", 3);

        due.of("SLIP (0 .. 10; at first 0).");
        CountingHorses z = new CountingHorses();
        due.call(z, 0, "about", 4);
        due.call(z, YES, "weather", 10, 0);
        due.call(z, 10, "about", 4);
        due.call(z, YES, "weather", 0, 0);
        due.call(z, 0, "about", 4);
        due.changesNothing(Mails::some, NO, "weather", -1, 5);
        due.changesNothing(Mails::some, NO, "weather", 11, 5);

        due.of("X: at first 13.");
        due.call(new CountingHorses(), 13, "about", 5);
    }

    private static void aNewObject() {
        due.of(1, "No HORSES, a dry ROAD; THE IMAGE is this.");
        CountingHorses x = new CountingHorses();
        int[] first = {0, 0, 0, 0, 0, 13, 0, NONE, 0, 0, 0, 0};
        for (int what = 0; what < first.length; what++) {
            due.call(x, first[what], "about", what);
        }
        for (int place = 0; place < 300; place++) {
            due.call(x, 0, "about", 100 + place);
        }
        due.call(x, NONE, "coach", 3);
        due.call(x, NONE, "drive", 0);
        CountingHorses y = Mails.three();
        y.inn(4);
        y.bridge(2, 3);
        y.mud(0, 299, 4);
        y.weather(3, 3);
        y.start(7);
        y.drive(0);
        y.pass(3);
        y.seen(5);
        y.tried(0, 0, 0);
        Mails.rule(y, "steps 1;");
        due.call(y, 0, "back");
        due.call(y, 0, "fault", 0);
        // The latest fault is no part of an image: a text that was read makes these two alike.
        CountingHorses twin = new CountingHorses();
        twin.text();
        twin.back();
        due.alike("back to a new one's image", y, twin);
    }

    private static void mud() {
        due.of(2, "MUD of PLACES from one to another one (not below): true.");
        CountingHorses x = Mails.stepping(9);
        due.call(x, YES, "mud", 7, 7, 3);
        due.call(x, 0, "about", 106);
        due.call(x, 3, "about", 107);
        due.call(x, 0, "about", 108);
        due.call(x, 13, "would", 0, 7, 0);
        due.call(x, YES, "mud", 0, 299, 9);
        due.call(x, 9, "about", 100);
        due.call(x, 9, "about", 399);
        due.call(x, 7, "would", 0, 7, 0);
        due.call(x, YES, "mud", 7, 8, 0);
        due.call(x, 16, "would", 0, 7, 0);
        due.changesNothing(Mails::some, NO, "mud", 8, 7, 3);
    }

    private static void mudOfOthers() {
        due.of(2, "False for others.");
        int[][] wrong = {{-1, 5, 1}, {0, 300, 1}, {5, 4, 1}, {299, 0, 1}, {5, 6, -1}, {5, 6, 10},
            {LEAST, MOST, 1}, {0, MOST, 1}, {LEAST, 0, 1}, {5, 6, LEAST}, {5, 6, MOST}};
        for (int[] w : wrong) {
            due.changesNothing(Mails::some, NO, "mud", w[0], w[1], w[2]);
        }
    }

    private static void bridge() {
        due.of(3, "A BRIDGE from a PLACE to a later one: how many there are.");
        CountingHorses x = Mails.stepping(1);
        due.call(x, 1, "bridge", 298, 299);
        due.call(x, 2, "bridge", 0, 299);
        due.call(x, 3, "bridge", 5, 6);
        due.call(x, 4, "bridge", 5, 7);
        due.call(x, 299, "would", 0, 297, 0);
        due.call(x, 6, "would", 0, 4, 0);
        due.call(x, 4, "about", 1);
    }

    private static void bridgeOfOthers() {
        due.of(3, "NONE for others, or if there are 4.");
        int[][] wrong = {{-1, 5}, {5, 300}, {299, 300}, {5, 5}, {6, 5}, {299, 299}, {0, 0},
            {LEAST, 5}, {5, MOST}, {LEAST, MOST}, {MOST, LEAST}};
        for (int[] w : wrong) {
            due.changesNothing(Mails::some, NONE, "bridge", w[0], w[1]);
        }
        due.changesNothing(Mails::full, NONE, "bridge", 1, 2);
    }

    private static void inn() {
        due.of(4, "An INN: how many there are.");
        CountingHorses x = new CountingHorses();
        due.call(x, 1, "inn", 0);
        due.call(x, 2, "inn", 299);
        due.call(x, 3, "inn", 0);
        due.call(x, 0, "about", 20);
        due.call(x, 299, "about", 21);
        due.call(x, 0, "about", 22);
        due.call(x, 3, "about", 2);
        due.call(x, 0, "about", 8);
    }

    private static void innOfOthers() {
        due.of(4, "NONE for others, or if there are 10.");
        for (int wrong : new int[] {-1, 300, LEAST, MOST}) {
            due.changesNothing(Mails::some, NONE, "inn", wrong);
        }
        due.changesNothing(Mails::full, NONE, "inn", 1);
    }

    private static void move() {
        due.of(5, "INN i is at another PLACE: true.");
        CountingHorses x = Mails.full();
        due.call(x, YES, "move", 0, 299);
        due.call(x, YES, "move", 9, 0);
        due.call(x, 299, "about", 20);
        due.call(x, 11, "about", 21);
        due.call(x, 88, "about", 28);
        due.call(x, 0, "about", 29);
        due.call(x, YES, "move", 1, 0);
        due.call(x, 0, "about", 21);
        due.call(x, YES, "move", 1, 11);
        due.call(x, 11, "about", 21);
    }

    private static void moveOfOthers() {
        due.of(5, "False for others, and if it is there.");
        due.changesNothing(Mails::empty, NO, "move", 0, 5);
        int[][] wrong = {{-1, 8}, {2, 8}, {0, -1}, {0, 300}, {LEAST, 8}, {MOST, 8}, {0, LEAST},
            {0, MOST}};
        for (int[] w : wrong) {
            due.changesNothing(Mails::some, NO, "move", w[0], w[1]);
        }
        due.changesNothing(Mails::full, NO, "move", 10, 5);
        // Both are where they were put: inn 0 by a move, inn 1 at first.
        due.changesNothing(Mails::some, NO, "move", 0, 7);
        due.changesNothing(Mails::some, NO, "move", 1, 5);
    }

    private static void horse() {
        due.of(6, "A HORSE: its number.");
        CountingHorses x = new CountingHorses();
        for (int i = 0; i < 6; i++) {
            due.call(x, i, "horse", 5, 3);
            due.call(x, i + 1, "about", 0);
        }
    }

    private static void horseOfOthers() {
        due.of(6, "NONE for others, or if there are 6.");
        due.changesNothing(Mails::full, NONE, "horse", 5, 3);
        int[][] wrong = {{0, 5}, {100, 5}, {5, 0}, {5, 10}, {0, 0}, {-5, -3}};
        for (int[] w : wrong) {
            due.changesNothing(Mails::empty, NONE, "horse", w[0], w[1]);
        }
    }

    private static void weather() {
        due.of(7, "SLIP, and X is SEED (0 .. 9999) * 7 + 13: true.");
        CountingHorses x = new CountingHorses();
        int[][] told = {{0, 0, 13}, {10, 9999, 70006}, {1, 1, 20}, {9, 4300, 30113}};
        for (int[] t : told) {
            due.call(x, YES, "weather", t[0], t[1]);
            due.call(x, t[0], "about", 4);
            due.call(x, t[2], "about", 5);
        }
    }

    private static void weatherOfOthers() {
        due.of(7, "False for others.");
        int[][] wrong = {{-1, 0}, {11, 0}, {0, -1}, {0, 10000}, {LEAST, 0}, {MOST, 0}, {5, LEAST},
            {5, MOST}};
        for (int[] w : wrong) {
            due.changesNothing(Mails::some, NO, "weather", w[0], w[1]);
        }
    }
}
