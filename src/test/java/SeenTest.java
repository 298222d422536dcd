/** Seen, taught and never: the terms of part III, promises 23 to 27. */
public final class SeenTest {
    private static final int NONE = CountingHorses.NONE;
    private static final int LEAST = Integer.MIN_VALUE;
    private static final int MOST = Integer.MAX_VALUE;
    private static final Due due = new Due();

    public static void main(String[] args) {
        sixAtMost();
        whoCanHave();
        orders();
        seen();
        who();
        tenAtMost();
        fitting();
        tried();
        neverStoppedAt();
        due.close("SeenTest");
    }

    /** Two who stop 5 on and one who stops 10 on. */
    private static CountingHorses fives() {
        CountingHorses x = new CountingHorses();
        x.horse(1, 5);
        x.horse(5, 1);
        x.horse(2, 5);
        return x;
    }

    private static void sixAtMost() {
        due.of("SEEN (6 at most; told): STOPS, one behind the other, from a PLACE told on:");
        CountingHorses x = fives();
        due.call(x, 0, "about", 9);
        for (int i = 1; i <= 6; i++) {
            due.call(x, i, "seen", i * 5);
        }
        due.call(x, -2, "seen", 35);
        due.call(x, 6, "about", 9);
        for (int i = 0; i < 6; i++) {
            due.call(x, 3, "who", 0, i);
        }
        due.call(x, 0, "who", 1, 0);
        due.call(x, 3, "who", 1, 1);
    }

    private static void whoCanHave() {
        due.of("who can have made the i-th (HORSES as bits): each that from the STOP ahead "
            + "STOPS there;");
        CountingHorses x = fives();
        x.seen(5);
        x.seen(15);
        x.seen(15);
        x.seen(299);
        x.seen(299);
        due.call(x, 3, "who", 0, 0);
        due.call(x, 4, "who", 0, 1);
        due.call(x, 0, "who", 0, 2);
        due.call(x, 0, "who", 0, 3);
        due.call(x, 7, "who", 0, 4);
        // A stop that can't have been made is the one ahead all the same.
        due.call(x, 0, "who", 299, 0);
        due.call(x, 4, "who", 299, 1);
        due.call(x, 0, "who", 5, 0);
        x.mud(15, 15, 9);
        due.call(x, 7, "who", 0, 2);
        CountingHorses six = new CountingHorses();
        for (int i = 0; i < 6; i++) {
            six.horse(1, 1);
        }
        six.seen(1);
        due.call(six, 63, "who", 0, 0);
        CountingHorses none = new CountingHorses();
        none.seen(1);
        due.call(none, 0, "who", 0, 0);
    }

    private static void orders() {
        due.of("ORDERS: in how many orders they can have been driven, each HORSE once at most.");
        CountingHorses x = fives();
        due.call(x, 1, "who", 0, NONE);
        x.seen(5);
        due.call(x, 2, "who", 0, NONE);
        due.call(x, 0, "who", 1, NONE);
        x.seen(10);
        due.call(x, 2, "who", 0, NONE);
        x.seen(20);
        due.call(x, 2, "who", 0, NONE);
        x.seen(25);
        due.call(x, 0, "who", 0, NONE);
        CountingHorses six = new CountingHorses();
        for (int i = 0; i < 6; i++) {
            six.horse(1, 1);
            six.seen(i + 1);
        }
        due.call(six, 720, "who", 0, NONE);
        due.call(six, 0, "who", 1, NONE);
        CountingHorses palace = fives();
        for (int i = 0; i < 3; i++) {
            palace.seen(299);
        }
        due.call(palace, 6, "who", 299, NONE);
        palace.seen(299);
        due.call(palace, 0, "who", 299, NONE);
        due.call(Mails.empty(), 1, "who", 0, NONE);
        CountingHorses none = new CountingHorses();
        none.seen(1);
        due.call(none, 0, "who", 0, NONE);
    }

    private static void seen() {
        due.of(23, "SEEN: one STOP more (NONE: none any more): how many there are.");
        CountingHorses x = fives();
        due.call(x, 1, "seen", 0);
        due.call(x, 2, "seen", 299);
        due.call(x, 3, "seen", 0);
        due.call(x, 0, "seen", NONE);
        due.call(x, 0, "about", 9);
        due.call(x, -2, "who", 0, 0);
        due.call(x, 1, "who", 0, NONE);
        due.call(x, 0, "seen", NONE);
        due.call(x, 1, "seen", 5);
        due.call(x, 3, "who", 0, 0);
        CountingHorses full = Mails.full();
        due.call(full, 0, "seen", NONE);
        due.call(full, 1, "seen", 9);

        due.of(23, "-2 for others, or if there are 6.");
        for (int wrong : new int[] {-2, 300, LEAST, MOST}) {
            due.changesNothing(Mails::some, -2, "seen", wrong);
        }
        due.changesNothing(Mails::full, -2, "seen", 5);
        due.changesNothing(Mails::full, -2, "seen", 300);
    }

    private static void who() {
        due.of(24, "Who (bits) can have made the i-th STOP from a PLACE on; ORDERS (i NONE).");
        CountingHorses x = fives();
        x.seen(104);
        x.seen(114);
        due.call(x, 3, "who", 99, 0);
        due.call(x, 4, "who", 94, 0);
        due.call(x, 4, "who", 99, 1);
        due.call(x, 2, "who", 99, NONE);
        due.call(x, 0, "who", 94, NONE);
        due.changesNothing(Mails::some, 0, "who", 50, 0);

        due.of(24, "-2 for others, and if there is none such.");
        int[][] wrong = {{-1, 0}, {300, 0}, {-1, -1}, {300, -1}, {0, -2}, {0, 1}, {LEAST, 0},
            {MOST, 0}, {0, LEAST}, {0, MOST}};
        for (int[] w : wrong) {
            due.changesNothing(Mails::some, -2, "who", w[0], w[1]);
        }
        due.changesNothing(Mails::full, -2, "who", 0, 6);
        due.changesNothing(Mails::empty, -2, "who", 0, 0);
    }

    private static void tenAtMost() {
        due.of("TAUGHT: TRIED (10 at most; told): a HORSE, from which PLACE, where it STOPPED:");
        CountingHorses x = Mails.three();
        Mails.read(x, "");
        due.call(x, 0, "about", 10);
        for (int i = 1; i <= 10; i++) {
            due.call(x, i, "tried", 0, i, i + 12);
            due.call(x, 1, "taught");
        }
        due.call(x, -2, "tried", 0, 50, 50);
        due.call(x, 1, "taught");
        due.call(x, 10, "about", 10);
        for (int wrongOne = 0; wrongOne < 10; wrongOne++) {
            x.tried(NONE, 0, 0);
            for (int i = 0; i < 10; i++) {
                x.tried(i % 3, i, (i == wrongOne ? i + 1 : i) + new int[] {12, 10, 7}[i % 3]);
            }
            due.call(x, 0, "taught");
        }
    }

    private static void fitting() {
        due.of("TEXTS (bits) by which, if it ruled, all of these are so.");
        CountingHorses x = Mails.three();
        due.call(x, 0, "taught");
        Mails.read(x, "");
        Mails.read(x, "steps 2; stride 6; oats 7;");
        Mails.read(x, "stride 4-day;");
        Mails.read(x, "drive 0; pass 1; stride 3;");
        due.call(x, 15, "taught");
        x.tried(0, 0, 12);
        due.call(x, 1 + 2 + 8, "taught");
        for (int ruling = NONE; ruling < 4; ruling++) {
            x.by(ruling);
            due.call(x, 1 + 2 + 8, "taught");
        }
        x.pass(1);
        due.call(x, 15, "taught");
        x.tried(0, 290, 299);
        due.call(x, 15, "taught");
        x.tried(0, 299, 299);
        due.call(x, 15, "taught");
        x.tried(1, 0, 10);
        due.call(x, 1, "taught");
        x.mud(5, 5, 1);
        due.call(x, 0, "taught");

        due.of(26, "TAUGHT (bits).");
        due.call(Mails.empty(), 0, "taught");
        CountingHorses y = Mails.three();
        y.tried(0, 0, 12);
        due.call(y, 0, "taught");
        Mails.read(y, "steps 1;");
        due.call(y, 0, "taught");
        Mails.read(y, "oats 1;");
        due.call(y, 2, "taught");
        y.tried(NONE, 0, 0);
        due.call(y, 3, "taught");
        due.changesNothing(Mails::some, 1, "taught");
    }

    private static void tried() {
        due.of(25, "TRIED: how many there are (horse NONE: none any more).");
        CountingHorses x = Mails.three();
        Mails.read(x, "");
        due.call(x, 1, "tried", 0, 0, 299);
        due.call(x, 2, "tried", 2, 299, 0);
        due.call(x, 2, "about", 10);
        due.call(x, 0, "taught");
        due.call(x, 0, "tried", NONE, 0, 0);
        due.call(x, 0, "about", 10);
        due.call(x, 1, "taught");
        due.call(x, 0, "tried", NONE, -5, 300);
        due.call(x, 1, "tried", 1, 0, 10);
        due.call(x, 1, "taught");
        CountingHorses full = Mails.full();
        due.call(full, 0, "tried", NONE, 0, 0);
        due.call(full, 1, "tried", 5, 0, 0);

        due.of(25, "-2 for others, or if there are 10.");
        int[][] wrong = {{-2, 0, 0}, {3, 0, 0}, {5, 0, 0}, {6, 0, 0}, {0, -1, 0}, {0, 300, 0},
            {0, 0, -1}, {0, 0, 300}, {LEAST, 0, 0}, {MOST, 0, 0}, {0, LEAST, 0}, {0, MOST, 0},
            {0, 0, LEAST}, {0, 0, MOST}};
        for (int[] w : wrong) {
            due.changesNothing(Mails::some, -2, "tried", w[0], w[1], w[2]);
        }
        due.changesNothing(Mails::empty, -2, "tried", 0, 0, 0);
        due.changesNothing(Mails::full, -2, "tried", 0, 0, 0);
    }

    private static void neverStoppedAt() {
        due.of("NEVER: INNS (bits by number) at which none of the HORSES STOPS with one DRIVE from "
            + "any PLACE (299, too).");
        CountingHorses x = new CountingHorses();
        due.call(x, 0, "never");
        for (int i = 0; i < 10; i++) {
            x.inn(i == 9 ? 299 : i);
        }
        due.call(x, 1023, "never");
        x.horse(1, 5);
        due.call(x, 31, "never");
        x.horse(1, 2);
        due.call(x, 3, "never");
        x.bridge(8, 20);
        due.call(x, 3 + 256, "never");
        Mails.rule(x, "steps if place=1 ? 0 : count end;");
        // Place 1 is stayed at, and 3 was come to from there alone.
        due.call(x, 1 + 8 + 256, "never");
        CountingHorses y = new CountingHorses();
        y.horse(1, 1);
        y.inn(299);
        y.inn(298);
        due.call(y, 0, "never");
        // None comes to 299 but who is there already.
        y.mud(0, 299, 9);
        due.call(y, 0, "never");
        Mails.rule(y, "steps if place=299 ? 1 : 0 end;");
        due.call(y, 0, "never");
        y.bridge(298, 299);
        Mails.rule(y, "steps 1; stride 0;");
        due.call(y, 2, "never");

        due.of(27, "NEVER (bits).");
        due.call(Mails.three(), 0, "never");
        CountingHorses z = Mails.three();
        z.inn(6);
        due.call(z, 1, "never");
        z.inn(7);
        due.call(z, 1, "never");
        z.inn(6);
        due.call(z, 5, "never");
        z.move(0, 7);
        due.call(z, 4, "never");
        z.move(1, 3);
        due.call(z, 6, "never");
        due.changesNothing(Mails::some, 3, "never");
        due.changesNothing(Mails::empty, 0, "never");
    }
}
