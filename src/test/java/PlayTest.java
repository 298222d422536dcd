/** Texts that are played: the terms' last line of part II, promise 17. */
public final class PlayTest {
    private static final int NONE = CountingHorses.NONE;
    private static final Due due = new Due();

    public static void main(String[] args) {
        inTheirOrder();
        asByHand();
        oneThatCannotBe();
        whatWasDoneStays();
        played();
        due.close("PlayTest");
    }

    private static int play(CountingHorses x, String text) {
        return x.played(Mails.read(x, text));
    }

    private static void inTheirOrder() {
        due.of("PLAYED by a TEXT: its drive and pass (DAYS) clauses, in their order, as by hand;");
        CountingHorses x = Mails.three();
        x.bridge(12, 100);
        due.is("over the bridge", play(x, "drive 0; drive 1;"), NONE);
        due.call(x, 110, "coach", 0);
        x.start(0);
        due.is("beside it", play(x, "drive 1; drive 0;"), NONE);
        due.call(x, 22, "coach", 0);
        x.start(0);
        Mails.rule(x, "steps day; stride 1;");
        due.is("behind days", play(x, "drive 0; pass 3; drive 0; pass 2; drive 0;"), NONE);
        due.call(x, 0 + 3 + 5, "coach", 0);
        due.call(x, 5, "about", 3);
        due.call(x, 3, "coach", 2);
        due.call(x, 8, "about", 8);
    }

    private static void asByHand() {
        CountingHorses x = Mails.some();
        CountingHorses hand = Mails.some();
        String text = "oats 9; drive 2; stride 1; pass 40; drive 0; steps 1;";
        due.is("all", play(x, text), NONE);
        Mails.read(hand, text);
        hand.drive(2);
        hand.pass(40);
        hand.drive(0);
        due.is("it does not rule", x.about(7), 1);
        due.alike("played and by hand", x, hand);
    }

    private static void oneThatCannotBe() {
        due.of("one that can't be ends it: its number among all CLAUSES (from 0);");
        due.is("no such horse", play(Mails.three(), "drive 3; drive 0;"), 0);
        due.is("no such horse", play(Mails.three(), "steps 1; drive 0; oats 1; drive 5;"), 3);
        due.is("no horse", play(Mails.empty(), "pass 1; drive 0;"), 1);
        CountingHorses x = Mails.three();
        due.is("at 299", play(x, "steps 99; stride 9; drive 0;"), NONE);
        x.by(0);
        due.is("at 299", play(x, "drive 0; drive 0; pass 1; drive 0;"), 1);
        due.call(x, 0, "about", 3);
        due.is("at 299 days go by", play(x, "pass 1; oats 1; drive 0;"), 2);
        due.call(x, 1, "about", 3);
        CountingHorses y = Mails.three();
        due.is("beyond 999", play(y, "pass 99;".repeat(10) + "pass 10;"), 10);
        due.call(y, 990, "about", 3);
        due.is("up to 999", play(y, "pass 9;"), NONE);
        due.is("beyond 999", play(y, "pass 1;"), 0);
        due.call(y, 999, "about", 3);
        CountingHorses z = Mails.three();
        due.is("the last of 24", play(z, "pass 1;".repeat(23) + "drive 5;"), 23);
    }

    private static void whatWasDoneStays() {
        due.of("what was done stays.");
        CountingHorses x = Mails.three();
        due.is("the fourth can't be", play(x, "drive 0; pass 2; drive 1; drive 4; drive 0;"), 3);
        due.call(x, 22, "coach", 0);
        due.call(x, 2, "coach", 1);
        due.call(x, 2, "coach", 2);
        due.call(x, 2, "about", 3);
        due.call(x, 4, "about", 8);
        due.call(x, 3, "undo");
        due.call(x, 12, "coach", 0);
    }

    private static void played() {
        due.of(17, "PLAYED by a TEXT: NONE: all is done; else the number of the CLAUSE that can't be.");
        CountingHorses x = Mails.three();
        due.is("an empty one", play(x, ""), NONE);
        due.is("laws alone", play(x, "steps 1; oats 1;"), NONE);
        due.is("the second", play(x, "steps 1; drive 4;"), 1);
        due.is("the most days", play(x, "pass 33;".repeat(24)), NONE);
        due.call(x, 33 * 24, "about", 3);
        due.call(x, 30, "about", 8);
        due.call(x, 6, "played", 3);
        due.call(x, 33 * 30, "about", 3);

        due.of(17, "-2 for others.");
        due.changesNothing(Mails::empty, -2, "played", 0);
        for (int wrong : new int[] {-2, NONE, 2, 3, 4, Integer.MIN_VALUE, Integer.MAX_VALUE}) {
            due.changesNothing(Mails::some, -2, "played", wrong);
        }
        due.changesNothing(Mails::full, -2, "played", 4);
    }
}
