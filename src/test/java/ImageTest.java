/** The image and what is told about all: the terms' last lines, promises 28 to 30. */
public final class ImageTest {
    private static final int NONE = CountingHorses.NONE;
    private static final Due due = new Due();

    public static void main(String[] args) {
        allAsItIs();
        notTheTape();
        allIsSoAgain();
        texts();
        fullAgain();
        eachOfMost();
        image();
        back();
        about();
        aboutOthers();
        due.close("ImageTest");
    }

    /** Tells something of each kind, so that nothing is as it was. */
    private static void tellMore(CountingHorses x) {
        x.horse(9, 9);
        x.inn(100);
        x.move(0, 3);
        x.move(1, 4);
        x.bridge(1, 2);
        x.mud(0, 299, 1);
        x.weather(9, 9);
        x.drive(1);
        x.pass(40);
        x.seen(NONE);
        x.seen(1);
        x.seen(2);
        x.tried(NONE, 0, 0);
        x.tried(1, 3, 3);
        Mails.rule(x, "steps 3; stride 2; oats 1;");
        Mails.read(x, "drive 0;");
    }

    private static void allAsItIs() {
        due.of("AN IMAGE: all as it is, but the tape and the latest FAULT.");
        CountingHorses x = Mails.some();
        x.image();
        tellMore(x);
        x.back();
        // Tape and latest fault are of no image: the twin's are made alike by a text of its own.
        CountingHorses twin = Mails.some();
        twin.image();
        Mails.read(twin, "drive 0;");
        twin.back();
        due.alike("back behind all that was told", x, twin);
    }

    private static void notTheTape() {
        CountingHorses x = new CountingHorses();
        Mails.putOnTape(x, "oats 1;");
        x.image();
        Mails.read(x, "oats 1; oats");
        due.call(x, 4, "fault", 0);
        Mails.putOnTape(x, "pass 12; pass 0;");
        x.back();
        due.call(x, 16, "about", 11);
        due.call(x, 4, "fault", 0);
        due.call(x, 8, "fault", 1);
        x.end(8);
        x.back();
        due.call(x, 0, "text");
        x.image();
        due.call(x, NONE, "played", 0);
        due.call(x, 12, "about", 3);
        Mails.read(x, "!");
        x.image();
        due.call(x, 1, "fault", 0);
        Mails.read(x, "");
        x.back();
        due.call(x, 0, "fault", 0);
        due.call(x, NONE, "fault", 1);
        CountingHorses y = new CountingHorses();
        y.back();
        due.call(y, NONE, "fault", 0);
    }

    private static void allIsSoAgain() {
        due.of("BACK: all is so again.");
        CountingHorses x = Mails.three();
        x.inn(9);
        x.bridge(50, 60);
        x.mud(70, 80, 3);
        x.weather(2, 500);
        x.drive(0);
        x.pass(4);
        x.seen(12);
        x.tried(0, 0, 12);
        int[] was = {x.about(0), x.about(1), x.about(2), x.about(3), x.about(4), x.about(5),
            x.about(6), x.about(7), x.about(8), x.about(9), x.about(10)};
        int[] coach = {x.coach(0), x.coach(1), x.coach(2), x.coach(3)};
        x.image();
        for (int times = 0; times < 2; times++) {
            tellMore(x);
            x.undo();
            due.call(x, coach[0], "back");
            for (int what = 0; what < was.length; what++) {
                due.call(x, was[what], "about", what);
            }
            for (int what = 0; what < 4; what++) {
                due.call(x, coach[what], "coach", what);
            }
            due.call(x, 9, "about", 20);
            due.call(x, -2, "about", 21);
            due.call(x, 0, "about", 169);
            due.call(x, 3, "about", 170);
            due.call(x, 0, "about", 181);
            due.call(x, 60 + 9, "would", 0, 47, 0);
            due.call(x, NONE, "would", 3, 0, 0);
        }
        for (int left = 4; left >= 0; left--) {
            due.call(x, left, "undo");
        }
        due.call(x, 0, "coach", 0);
        due.call(x, 500 * 7 + 13, "about", 5);
        due.call(x, NONE, "undo");
    }

    private static void texts() {
        CountingHorses x = Mails.three();
        Mails.rule(x, "steps 1;");
        x.image();
        Mails.rule(x, "steps 2;");
        due.call(x, 6, "would", 0, 0, 0);
        Mails.read(x, "steps 5; oats gone gone;");
        due.call(x, 0, "back");
        due.call(x, 1, "about", 6);
        due.call(x, 0, "about", 7);
        due.call(x, 3, "would", 0, 0, 0);
        due.call(x, 0, "by", 1);
        due.call(x, -2, "played", 1);
        due.is("another text 1", Mails.read(x, "steps 3;"), 1);
        x.by(1);
        due.call(x, 9, "would", 0, 0, 0);
        x.back();
        due.call(x, 3, "would", 0, 0, 0);
        Mails.read(x, "steps 4;");
        Mails.read(x, "steps 5;");
        x.by(2);
        x.image();
        due.is("the fourth", Mails.read(x, "steps 6;"), 3);
        x.by(NONE);
        x.back();
        due.call(x, 3, "about", 6);
        due.call(x, 2, "about", 7);
        due.call(x, 15, "would", 0, 0, 0);
        due.is("the fourth again", Mails.read(x, "steps 7;"), 3);
        due.is("no fifth", Mails.read(x, "steps 8;"), NONE);
        for (int text = 0; text < 4; text++) {
            x.by(text);
            due.call(x, new int[] {1, 4, 5, 7}[text], "would", 0, 0, 2);
        }
    }

    private static void fullAgain() {
        CountingHorses x = new CountingHorses();
        x.image();
        for (int times = 0; times < 3; times++) {
            for (int i = 0; i < 4; i++) {
                due.call(x, i + 1, "bridge", i, i + 1 + times);
                due.is("text", Mails.read(x, "pass " + (i + 1 + times) + ";"), i);
            }
            for (int i = 0; i < 6; i++) {
                due.call(x, i, "horse", i + 1 + times, 2);
                due.call(x, i + 1, "seen", i);
            }
            for (int i = 0; i < 10; i++) {
                due.call(x, i + 1, "inn", i);
                due.call(x, i + 1, "tried", 0, i, i);
            }
            due.call(x, NONE, "played", 3);
            due.call(x, 4 + times, "about", 3);
            due.call(x, 0, "back");
        }
    }

    /** The last of each row is kept as the first is. */
    private static void eachOfMost() {
        CountingHorses x = new CountingHorses();
        for (int i = 0; i < 6; i++) {
            x.horse(1, i + 1);
            x.seen((i + 1) * (i + 2) / 2);
        }
        for (int i = 0; i < 10; i++) {
            x.inn(i);
            x.tried(i % 6, i, i + i % 6 + 1);
        }
        Mails.read(x, "");
        x.image();
        for (int i = 0; i < 10; i++) {
            x.move(i, 200);
        }
        x.seen(NONE);
        x.tried(NONE, 0, 0);
        for (int i = 0; i < 10; i++) {
            x.seen(299);
            x.tried(i % 5, i + 1, 299);
        }
        x.back();
        for (int i = 0; i < 10; i++) {
            due.call(x, i, "about", 20 + i);
        }
        for (int i = 0; i < 6; i++) {
            due.call(x, 1 << i, "who", 0, i);
        }
        due.call(x, 1, "taught");
        due.call(x, 1, "who", 0, NONE);
        eachOfTried(x);
    }

    /** Each that was tried is looked at: with any of them gone wrong none fits. */
    private static void eachOfTried(CountingHorses x) {
        for (int wrong = 0; wrong < 10; wrong++) {
            x.tried(NONE, 0, 0);
            for (int i = 0; i < 10; i++) {
                x.tried(i % 6, i, i + i % 6 + (i == wrong ? 2 : 1));
            }
            x.image();
            x.tried(NONE, 0, 0);
            for (int i = 0; i < 10; i++) {
                x.tried(0, 299, 299);
            }
            due.call(x, 1, "taught");
            x.back();
            due.call(x, 0, "taught");
        }
    }

    private static void image() {
        due.of(28, "THE IMAGE is as all is now: PLACE of THE COACH.");
        CountingHorses x = Mails.three();
        due.call(x, 0, "image");
        x.start(299);
        due.call(x, 299, "image");
        x.start(7);
        x.horse(5, 5);
        due.call(x, 7, "image");
        x.start(9);
        due.call(x, 7, "back");
        due.call(x, 4, "about", 0);
        due.changesNothing(ImageTest::anImageOfSome, Mails.some().coach(0), "image");
    }

    private static CountingHorses anImageOfSome() {
        CountingHorses x = Mails.some();
        x.image();
        return x;
    }

    private static void back() {
        due.of(29, "BACK to THE IMAGE (it stays): PLACE of THE COACH.");
        due.call(Mails.full(), 0, "back");
        CountingHorses x = Mails.three();
        x.start(33);
        x.image();
        for (int times = 0; times < 3; times++) {
            x.drive(times);
            x.inn(times);
            due.call(x, 33, "back");
            due.call(x, 33, "coach", 0);
            due.call(x, 0, "about", 2);
            due.call(x, 33, "back");
        }
        due.changesNothing(ImageTest::anImageOfSome, Mails.some().coach(0), "back");
    }

    private static void about() {
        due.of(30, "0 HORSES, 1 BRIDGES, 2 INNS, 3 DAY, 4 SLIP, 5 X, 6 TEXTS, 7 THE TEXT (NONE), "
            + "8 STEPS BACK that can be, 9 SEEN, 10 TRIED, 11 bytes of the tape, "
            + "20 + inn: its PLACE, 100 + place: MUD.");
        CountingHorses x = Mails.three();
        x.bridge(9, 30);
        x.bridge(40, 44);
        x.inn(33);
        x.inn(5);
        x.inn(299);
        x.inn(0);
        x.pass(11);
        x.weather(6, 100);
        for (int i = 0; i < 3; i++) {
            Mails.read(x, "");
        }
        due.call(x, NONE, "about", 7);
        x.by(1);
        for (int i = 0; i < 5; i++) {
            x.seen(i);
            x.tried(0, 0, 0);
            x.tried(0, 0, 0);
        }
        x.tried(NONE, 0, 0);
        for (int i = 0; i < 8; i++) {
            x.tried(0, 0, 0);
        }
        Mails.putOnTape(x, "steps 1; ");
        x.mud(0, 0, 7);
        x.mud(299, 299, 8);
        int[] told = {3, 2, 4, 11, 6, 713, 3, 1, 11, 5, 8, 9};
        for (int what = 0; what < told.length; what++) {
            due.call(x, told[what], "about", what);
        }
        int[] inns = {33, 5, 299, 0};
        for (int inn = 0; inn < inns.length; inn++) {
            due.call(x, inns[inn], "about", 20 + inn);
        }
        due.call(x, 7, "about", 100);
        due.call(x, 0, "about", 101);
        due.call(x, 0, "about", 398);
        due.call(x, 8, "about", 399);
        due.changesNothing(Mails::some, 2, "about", 3);
    }

    private static void aboutOthers() {
        due.of(30, "-2 for others.");
        CountingHorses x = Mails.some();
        for (int what = 12; what < 20; what++) {
            due.call(x, -2, "about", what);
        }
        for (int what = 22; what < 100; what++) {
            due.call(x, -2, "about", what);
        }
        CountingHorses full = Mails.full();
        due.call(full, 99, "about", 29);
        for (int what = 30; what < 100; what++) {
            due.call(full, -2, "about", what);
        }
        for (int wrong : new int[] {-1, -2, 400, 401, 12, 19, 22, 99, Integer.MIN_VALUE,
            Integer.MAX_VALUE}) {
            due.changesNothing(Mails::some, -2, "about", wrong);
        }
        due.call(Mails.empty(), -2, "about", 20);
    }
}
