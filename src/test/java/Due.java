/** What the project's tests share: counting wrong answers, and texts put on the tape. */
final class Due {
    private int wrong = 0;
    private int looked = 0;

    void is(String call, long got, long want) {
        looked++;
        if (got != want) {
            wrong++;
            System.out.println(call + " answered " + got + ", due is " + want);
        }
    }

    void yes(String call, boolean got) {
        is(call, got ? 1 : 0, 1);
    }

    void no(String call, boolean got) {
        is(call, got ? 1 : 0, 0);
    }

    /** A text must be read without a fault: its number. */
    void stands(CountingHorses x, int number, String text) {
        is("text " + text, read(x, text), number);
        is("fault of " + text, x.fault(0), 0);
        is("place of no fault of " + text, x.fault(1), CountingHorses.NONE);
    }

    /** A text must have a fault at a place. */
    void faulty(String text, int fault, int place) {
        CountingHorses x = new CountingHorses();
        is("text " + text, read(x, text), CountingHorses.NONE);
        is("fault of " + text, x.fault(0), fault);
        is("place of the fault of " + text, x.fault(1), place);
        is("texts behind " + text, x.about(6), 0);
        is("tape behind " + text, x.about(11), 0);
    }

    static int read(CountingHorses x, String text) {
        putOnTape(x, text);
        return x.text();
    }

    static void putOnTape(CountingHorses x, String text) {
        x.end(0);
        for (int from = 0; from < text.length(); from += 20) {
            x.feed(four(text, from), four(text, from + 4), four(text, from + 8),
                four(text, from + 12), four(text, from + 16));
        }
        x.end(text.length());
    }

    static int four(String text, int from) {
        int four = 0;
        for (int i = from; i < from + 4; i++) {
            four = four << 8 | (i < text.length() ? text.charAt(i) & 255 : 0);
        }
        return four;
    }

    void close(String name) {
        System.out.println(name + ": " + looked + " looked at, " + wrong + " wrong");
        if (wrong != 0) {
            System.exit(1);
        }
    }
}
