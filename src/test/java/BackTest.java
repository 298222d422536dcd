/** Steps back: the terms' last lines of part I, promise 18. */
public final class BackTest {
    private static final int NONE = CountingHorses.NONE;
    private static final Due due = new Due();

    public static void main(String[] args) {
        whatIsAStep();
        whatIsNone();
        latestThirty();
        around();
        asAheadOfIt();
        allElseStays();
        innsToldSince();
        eachInn();
        undo();
        due.close("BackTest");
    }

    private static void whatIsAStep() {
        due.of("STEPS BACK: a DRIVE by hand, a DAY (each), an INN that is moved:");
        CountingHorses x = Mails.three();
        x.inn(3);
        x.drive(0);
        due.call(x, 1, "about", 8);
        x.pass(5);
        due.call(x, 6, "about", 8);
        x.move(0, 4);
        due.call(x, 7, "about", 8);
        due.call(x, 6, "undo");
        due.call(x, 3, "about", 20);
        for (int day = 4; day >= 0; day--) {
            due.call(x, day + 1, "undo");
            due.call(x, day, "about", 3);
            due.call(x, 12, "coach", 0);
        }
        due.call(x, 0, "undo");
        due.call(x, 0, "coach", 0);
        Mails.rule(x, "steps 0; pass 3; drive 0; drive 1;");
        x.drive(0);
        due.call(x, 1, "about", 8);
        x.played(0);
        due.call(x, 6, "about", 8);
    }

    private static void whatIsNone() {
        CountingHorses x = Mails.some();
        int back = x.about(8);
        due.is("a drive, a drive, two days and a move", back, 5);
        x.mud(1, 1, 1);
        x.bridge(1, 2);
        x.inn(1);
        x.horse(1, 1);
        x.weather(1, 1);
        Mails.read(x, "");
        x.by(0);
        x.would(0, 0, 0);
        x.harness(0, 9, NONE);
        x.seen(1);
        x.tried(0, 0, 0);
        x.image();
        due.call(x, back, "about", 8);
        x.move(0, x.about(20));
        x.drive(9);
        x.pass(0);
        due.call(x, back, "about", 8);
    }

    private static void latestThirty() {
        due.of("the latest 30 can be taken back, the latest first");
        CountingHorses x = Mails.three();
        x.pass(29);
        due.call(x, 29, "about", 8);
        x.drive(0);
        due.call(x, 30, "about", 8);
        x.drive(0);
        due.call(x, 30, "about", 8);
        x.pass(2);
        due.call(x, 30, "about", 8);
        for (int left = 29; left >= 0; left--) {
            due.call(x, left, "undo");
            due.is("latest first, place", x.coach(0), left >= 28 ? 24 : left == 27 ? 12 : 0);
            due.is("latest first, day", x.about(3), left >= 28 ? left + 1 : Math.min(29, left + 3));
        }
        due.call(x, NONE, "undo");
        due.call(x, 3, "about", 3);
        x.pass(99);
        for (int left = 29; left >= 0; left--) {
            due.call(x, left, "undo");
        }
        due.call(x, NONE, "undo");
        due.call(x, 3 + 99 - 30, "about", 3);
    }

    /** Taken back and done again past thirty, with an image on the way. */
    private static void around() {
        CountingHorses x = Mails.three();
        x.inn(1);
        x.pass(25);
        for (int i = 0; i < 10; i++) {
            x.undo();
        }
        x.pass(10);
        due.call(x, 25, "about", 3);
        due.call(x, 25, "about", 8);
        x.pass(20);
        due.call(x, 30, "about", 8);
        x.image();
        for (int i = 0; i < 30; i++) {
            x.undo();
        }
        due.call(x, 15, "about", 3);
        x.start(77);
        x.move(0, 5);
        x.pass(40);
        x.back();
        due.call(x, 30, "about", 8);
        for (int day = 44; day >= 15; day--) {
            due.call(x, day - 15, "undo");
            due.call(x, day, "about", 3);
            due.call(x, 0, "coach", 0);
            due.call(x, 1, "about", 20);
        }
        due.call(x, NONE, "undo");
    }

    private static void asAheadOfIt() {
        due.of("(PLACE, OATS, DRIVES, DAY, X, INNS are as ahead of it; all else told since stays).");
        CountingHorses x = Mails.three();
        x.inn(5);
        x.inn(6);
        x.weather(4, 77);
        x.start(10);
        x.drive(0);
        x.pass(1);
        int[] ahead = {x.coach(0), x.coach(1), x.coach(2), x.about(3), x.about(5), 5, 6};
        x.drive(1);
        x.weather(9, 5);
        due.call(x, 2, "undo");
        looksAs(x, ahead);
        x.move(1, 9);
        x.weather(9, 6);
        due.call(x, 2, "undo");
        looksAs(x, ahead);
        x.pass(1);
        x.weather(9, 7);
        due.call(x, 2, "undo");
        looksAs(x, ahead);
        due.call(x, 9, "about", 4);
    }

    private static void looksAs(CountingHorses x, int[] ahead) {
        for (int what = 0; what < 3; what++) {
            due.call(x, ahead[what], "coach", what);
        }
        due.call(x, ahead[3], "about", 3);
        due.call(x, ahead[4], "about", 5);
        due.call(x, ahead[5], "about", 20);
        due.call(x, ahead[6], "about", 21);
    }

    private static void allElseStays() {
        CountingHorses x = Mails.three();
        x.drive(0);
        x.horse(9, 9);
        x.bridge(3, 200);
        x.mud(2, 4, 1);
        x.weather(7, 0);
        Mails.rule(x, "oats gone*2;");
        x.seen(9);
        x.tried(0, 0, 9);
        Mails.putOnTape(x, "oats");
        x.fault(0);
        due.call(x, 0, "undo");
        int[] stays = {4, 1, 0, 0, 7, 13, 1, 0, 0, 1, 1, 4};
        for (int what = 0; what < stays.length; what++) {
            due.call(x, stays[what], "about", what);
        }
        due.call(x, 1, "about", 103);
        due.call(x, 209, "would", 0, 0, 0);
        due.call(x, 418, "would", 0, 0, 1);
    }

    private static void innsToldSince() {
        CountingHorses x = Mails.three();
        x.inn(12);
        x.drive(0);
        x.inn(50);
        x.move(0, 60);
        x.inn(70);
        due.call(x, 1, "undo");
        due.call(x, 2, "about", 2);
        due.call(x, 12, "about", 20);
        due.call(x, 50, "about", 21);
        due.call(x, -2, "about", 22);
        due.call(x, 0, "undo");
        due.call(x, 1, "about", 2);
        due.call(x, -2, "about", 21);
        due.call(x, 2, "inn", 80);
    }

    private static void eachInn() {
        CountingHorses x = new CountingHorses();
        for (int i = 0; i < 10; i++) {
            x.inn(i);
        }
        for (int i = 0; i < 10; i++) {
            x.move(i, 100 + i);
        }
        for (int i = 9; i >= 0; i--) {
            due.call(x, 100 + i, "about", 20 + i);
            due.call(x, i, "undo");
            due.call(x, i, "about", 20 + i);
        }
    }

    private static void undo() {
        due.of(18, "The latest of STEPS BACK: how many can be yet.");
        CountingHorses x = Mails.three();
        x.pass(3);
        due.call(x, 2, "undo");
        due.call(x, 2, "about", 8);
        due.call(x, 2, "about", 3);
        due.call(x, 1, "undo");
        due.call(x, 0, "undo");
        due.call(x, 0, "about", 8);

        due.of(18, "NONE: there is none.");
        due.call(x, NONE, "undo");
        due.call(x, NONE, "undo");
        due.changesNothing(Mails::empty, NONE, "undo");
        due.changesNothing(BackTest::started, NONE, "undo");
        x.pass(1);
        due.call(x, 0, "undo");
    }

    private static CountingHorses started() {
        CountingHorses x = Mails.some();
        x.start(9);
        return x;
    }
}
