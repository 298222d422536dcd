/** Promises 13 to 19: would, drives by hand and by texts, days, steps back, the coach. */
public final class DriveTest {
    private static final int NONE = CountingHorses.NONE;
    private static final Due due = new Due();

    public static void main(String[] args) {
        start();
        would();
        drive();
        slips();
        pass();
        played();
        undo();
        undoOfInns();
        latestThirty();
        coach();
        due.close("DriveTest");
    }

    private static CountingHorses mail() {
        CountingHorses x = new CountingHorses();
        x.horse(4, 3);
        x.horse(2, 5);
        x.horse(99, 9);
        return x;
    }

    private static void start() {
        CountingHorses x = mail();
        x.drive(0);
        x.pass(3);
        due.no("below", x.start(-1));
        due.no("beyond", x.start(300));
        due.is("stays", x.coach(0), 12);
        due.is("steps back stay", x.about(8), 4);
        int drawn = x.about(5);
        due.yes("last", x.start(299));
        due.is("place", x.coach(0), 299);
        due.is("oats", x.coach(1), 0);
        due.is("drives", x.coach(2), 0);
        due.is("steps back are forgotten", x.about(8), 0);
        due.is("none to take back", x.undo(), NONE);
        due.is("day stays", x.about(3), 3);
        due.is("x stays", x.about(5), drawn);
        due.yes("first", x.start(0));
        due.is("place", x.coach(0), 0);
    }

    private static void would() {
        CountingHorses x = mail();
        due.is("stops", x.would(0, 100, 0), 112);
        due.is("eats", x.would(0, 100, 1), 1);
        due.is("steps", x.would(0, 100, 2), 4);
        due.is("cut at the palace", x.would(0, 290, 0), 299);
        due.is("gone 9", x.would(0, 290, 1), 0);
        due.is("gone 10", x.would(0, 289, 1), 1);
        due.is("at the palace", x.would(0, 299, 0), 299);
        due.is("eats there", x.would(0, 299, 1), 0);
        due.is("steps there", x.would(2, 299, 2), 99);
        int[][] wrong = {{-1, 0, 0}, {3, 0, 0}, {0, -1, 0}, {0, 300, 0}, {0, 0, -1}, {0, 0, 3}};
        for (int[] w : wrong) {
            due.is("would of others", x.would(w[0], w[1], w[2]), NONE);
        }
        due.stands(x, 0, "oats 5;");
        x.by(0);
        due.is("eats at the palace, too", x.would(0, 299, 1), 5);
        x.weather(10, 5);
        due.is("without slip", x.would(0, 100, 0), 112);
        due.is("no draw", x.about(5), 48);
        due.is("no drive", x.coach(2), 0);
    }

    private static void drive() {
        CountingHorses x = mail();
        due.is("below", x.drive(-1), NONE);
        due.is("beyond", x.drive(3), NONE);
        due.is("no step back", x.about(8), 0);
        due.is("first", x.drive(0), 12);
        due.is("second", x.drive(0), 24);
        due.is("oats", x.coach(1), 2);
        due.is("drives", x.coach(2), 2);
        due.is("to the palace", x.drive(2), 299);
        due.is("oats", x.coach(1), 29);
        due.is("none from there", x.drive(0), NONE);
        due.is("drives", x.coach(2), 3);
        due.is("steps back", x.about(8), 3);
    }

    private static int drawn(int x, int times) {
        int value = x;
        for (int i = 0; i < times; i++) {
            value = (value * 193 + 89) % 30103;
        }
        return value;
    }

    private static void slips() {
        CountingHorses x = mail();
        x.drive(0);
        due.is("a draw a step, without slip too", x.about(5), drawn(13, 4));
        x.start(290);
        x.weather(0, 1);
        due.is("three steps to the palace", x.drive(0), 299);
        due.is("no draw behind it", x.about(5), drawn(20, 3));
        x.start(0);
        x.weather(10, 0);
        due.is("each less by one", x.drive(0), 8);
        x.mud(8, 299, 9);
        due.is("0 at least", x.drive(0), 8);
        x.start(0);
        // 13 mod 10 is 3.
        x.weather(3, 0);
        x.mud(0, 299, 0);
        int place = 0;
        int draw = 13;
        for (int i = 0; i < 4; i++) {
            place += draw % 10 < 3 ? 2 : 3;
            draw = drawn(draw, 1);
        }
        due.is("some slip", x.drive(0), place);
        due.is("x behind it", x.about(5), draw);
        x.start(0);
        x.weather(10, 0);
        due.stands(x, 0, "stride 10;oats gone;");
        x.by(0);
        due.is("one less than what was cut", x.drive(0), 32);
        due.is("eats by how far it came", x.coach(1), 32);
        due.stands(x, 1, "steps 0;");
        x.by(1);
        x.start(0);
        draw = x.about(5);
        due.is("no step", x.drive(0), 0);
        due.is("no draw", x.about(5), draw);
        due.is("a drive", x.coach(2), 1);
    }

    private static void pass() {
        CountingHorses x = mail();
        due.is("none", x.pass(0), NONE);
        due.is("below", x.pass(-1), NONE);
        due.is("beyond", x.pass(100), NONE);
        due.is("one", x.pass(1), 1);
        due.is("most", x.pass(99), 100);
        for (int i = 0; i < 9; i++) {
            x.pass(99);
        }
        due.is("day", x.about(3), 991);
        due.is("beyond 999", x.pass(9), NONE);
        due.is("day stays", x.about(3), 991);
        due.is("up to 999", x.pass(8), 999);
        due.is("no more", x.pass(1), NONE);
        due.is("far", x.pass(Integer.MAX_VALUE), NONE);
    }

    private static void played() {
        CountingHorses x = mail();
        due.is("no text", x.played(0), -2);
        due.stands(x, 0, "drive 0; oats 50; pass 2; drive 1; stride 1;");
        due.is("below", x.played(-1), -2);
        due.is("beyond", x.played(1), -2);
        due.is("all", x.played(0), NONE);
        due.is("it does not rule", x.coach(0), 22);
        due.is("oats", x.coach(1), 2);
        due.is("drives", x.coach(2), 2);
        due.is("day", x.about(3), 2);
        due.is("steps back", x.about(8), 4);
        due.stands(x, 1, "steps 1; drive 0; drive 3; drive 0;");
        due.is("no such horse", x.played(1), 2);
        due.is("what was done stays", x.coach(0), 34);
        due.stands(x, 2, "drive 2; pass 1; drive 0;");
        due.is("at the palace", x.played(2), 2);
        due.is("day", x.about(3), 3);
        due.stands(x, 3, "pass 99;".repeat(11));
        due.is("beyond 999", x.played(3), 10);
        due.is("day", x.about(3), 993);
        due.is("others", x.played(4), -2);
    }

    private static void undo() {
        CountingHorses x = mail();
        due.is("none", x.undo(), NONE);
        x.weather(4, 77);
        int seed = x.about(5);
        x.drive(0);
        int place = x.coach(0);
        int oats = x.coach(1);
        int draw = x.about(5);
        x.pass(2);
        x.drive(2);
        x.horse(1, 1);
        x.bridge(1, 2);
        x.mud(1, 1, 1);
        due.is("the drive", x.undo(), 3);
        due.is("place", x.coach(0), place);
        due.is("oats", x.coach(1), oats);
        due.is("drives", x.coach(2), 1);
        due.is("x", x.about(5), draw);
        due.is("a day", x.undo(), 2);
        due.is("one less", x.about(3), 1);
        due.is("a day", x.undo(), 1);
        due.is("one less", x.about(3), 0);
        x.weather(7, 9000);
        due.is("the first drive", x.undo(), 0);
        due.is("x as ahead of it", x.about(5), seed);
        due.is("slip stays", x.about(4), 7);
        due.is("horses stay", x.about(0), 4);
        due.is("bridges stay", x.about(1), 1);
        due.is("mud stays", x.about(101), 1);
        due.is("place", x.coach(0), 0);
        due.is("none any more", x.undo(), NONE);
    }

    private static void undoOfInns() {
        CountingHorses x = mail();
        x.inn(12);
        x.drive(0);
        x.inn(50);
        x.move(0, 60);
        due.is("the move", x.undo(), 1);
        due.is("inn 0", x.about(20), 12);
        due.is("inn 1", x.about(21), 50);
        due.is("the drive", x.undo(), 0);
        due.is("inns as ahead of it", x.about(2), 1);
        due.is("inn 1 is none", x.about(21), -2);
    }

    private static void latestThirty() {
        CountingHorses x = mail();
        x.pass(29);
        due.is("29", x.about(8), 29);
        x.drive(0);
        due.is("30", x.about(8), 30);
        x.drive(0);
        due.is("30 at most", x.about(8), 30);
        x.pass(2);
        for (int left = 29; left >= 0; left--) {
            due.is("taken back", x.undo(), left);
        }
        due.is("the latest 30 alone", x.about(3), 3);
        due.is("place", x.coach(0), 0);
        due.is("none", x.undo(), NONE);
        x.pass(99);
        for (int left = 29; left >= 0; left--) {
            due.is("taken back", x.undo(), left);
        }
        due.is("day", x.about(3), 72);
    }

    private static void coach() {
        CountingHorses x = mail();
        x.inn(3);
        x.inn(12);
        x.inn(12);
        due.is("no inn there", x.coach(3), NONE);
        x.drive(0);
        due.is("the lowest there", x.coach(3), 1);
        x.move(1, 13);
        due.is("the other one", x.coach(3), 2);
        due.is("below", x.coach(-1), NONE);
        due.is("beyond", x.coach(4), NONE);
    }
}
