import java.util.ArrayList;
import java.util.List;

/** Mails that tests begin with, what can be seen of a mail, and texts put on its tape. */
final class Mails {
    private static final int NONE = CountingHorses.NONE;

    private Mails() {
    }

    static CountingHorses empty() {
        return new CountingHorses();
    }

    /** Horses of 4 by 3, 2 by 5 and 7 by 1 on a dry road. */
    static CountingHorses three() {
        CountingHorses x = new CountingHorses();
        x.horse(4, 3);
        x.horse(2, 5);
        x.horse(7, 1);
        return x;
    }

    /** One horse that makes one step. */
    static CountingHorses stepping(int shoe) {
        CountingHorses x = new CountingHorses();
        x.horse(1, shoe);
        return x;
    }

    /** Two horses, 4 by 3 and 2 by 5, that a text rules. */
    static CountingHorses ruled(String text) {
        CountingHorses x = new CountingHorses();
        x.horse(4, 3);
        x.horse(2, 5);
        rule(x, text);
        return x;
    }

    static void rule(CountingHorses x, String text) {
        x.by(read(x, text));
    }

    /** Some of all that can be told, an image, and something of each kind done behind it. */
    static CountingHorses some() {
        CountingHorses x = three();
        x.bridge(9, 30);
        x.bridge(40, 44);
        x.mud(10, 20, 2);
        x.inn(33);
        x.inn(5);
        read(x, "stride shoe-mud+step/3; drive 0; pass 2; drive 5;");
        rule(x, "steps count+day/2; oats gone/3+1;");
        x.weather(3, 77);
        x.seen(12);
        x.tried(1, 0, 10);
        x.drive(1);
        x.image();
        doSome(x);
        return x;
    }

    /** As much of all as can be told. */
    static CountingHorses full() {
        CountingHorses x = new CountingHorses();
        for (int i = 0; i < 10; i++) {
            x.inn(i * 11);
        }
        for (int i = 0; i < 6; i++) {
            x.horse(i + 2, 6 - i);
            x.seen(i * 7);
        }
        for (int i = 0; i < 10; i++) {
            x.tried(i % 6, i, i + 4);
        }
        for (int i = 0; i < 4; i++) {
            x.bridge(20 * i + 9, 20 * i + 14);
            read(x, "steps count+" + i + ";");
        }
        x.by(2);
        x.image();
        doSome(x);
        return x;
    }

    private static void doSome(CountingHorses x) {
        read(x, "oats gone gone;");
        putOnTape(x, "oats 7+gone*day");
        x.drive(0);
        x.pass(2);
        x.move(0, 7);
    }

    /**
     * All that can be seen of a mail, in some 400 calls: at last its tape is read, its steps are
     * taken back, and it goes back to its image.
     */
    static List<String> seenOf(CountingHorses x) {
        List<String> seen = new ArrayList<>();
        for (int what = 0; what < 400; what++) {
            if (what < 12 || what >= 20 && what < 30 || what >= 100) {
                look(seen, x, "about", what);
            }
        }
        for (int what = 0; what < 4; what++) {
            look(seen, x, "coach", what);
        }
        look(seen, x, "fault", 0);
        look(seen, x, "fault", 1);
        for (int horse = 0; horse < 6; horse++) {
            look(seen, x, "would", horse, 3, 0);
            look(seen, x, "would", horse, 8, 1);
            look(seen, x, "would", horse, 40, 0);
        }
        for (int i = NONE; i < 6; i++) {
            look(seen, x, "who", 0, i);
        }
        look(seen, x, "taught");
        look(seen, x, "text");
        look(seen, x, "fault", 1);
        for (int i = 0; i < 6; i++) {
            look(seen, x, "undo");
            look(seen, x, "coach", 0);
            look(seen, x, "about", 5);
            look(seen, x, "about", 20);
        }
        look(seen, x, "back");
        for (int what = 0; what < 12; what++) {
            look(seen, x, "about", what);
        }
        return seen;
    }

    private static void look(List<String> seen, CountingHorses x, String name, Object... args) {
        seen.add(Calls.told(name, args) + " is " + Calls.made(x, name, args));
    }

    static int read(CountingHorses x, String text) {
        putOnTape(x, text);
        return x.text();
    }

    static void putOnTape(CountingHorses x, String text) {
        x.end(0);
        for (int from = 0; from < text.length(); from += 20) {
            x.feed(four(text, from), four(text, from + 4), four(text, from + 8),
                four(text, from + 12), four(text, from + 16));
        }
        x.end(text.length());
    }

    static int four(String text, int from) {
        int four = 0;
        for (int i = from; i < from + 4; i++) {
            four = four << 8 | (i < text.length() ? text.charAt(i) & 255 : 0);
        }
        return four;
    }
}
