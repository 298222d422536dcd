/** Promises 20 to 29: harness, least oats, thief, seen, taught, never, image. */
public final class AskTest {
    private static final int NONE = CountingHorses.NONE;
    private static final Due due = new Due();

    public static void main(String[] args) {
        harness();
        harnessOrder();
        least();
        leastDrives();
        thief();
        seen();
        orders();
        tried();
        never();
        image();
        imageOfTexts();
        due.close("AskTest");
    }

    private static void harness() {
        CountingHorses x = new CountingHorses();
        x.horse(4, 3);
        x.horse(2, 5);
        x.horse(7, 1);
        x.weather(10, 3);
        due.is("all three", x.harness(0, 29, -1), 3);
        due.is("first", x.harness(0, 29, 0), 0);
        due.is("second", x.harness(0, 29, 1), 1);
        due.is("third", x.harness(0, 29, 2), 2);
        due.is("no fourth", x.harness(0, 29, 3), -3);
        due.is("oats", x.harness(0, 29, -2), 2);
        due.is("others", x.harness(0, 29, -3), -3);
        due.is("each once", x.harness(0, 24, -1), -3);
        due.is("none, no first", x.harness(9, 9, 0), -3);
        due.is("it is there", x.harness(299, 299, -1), 0);
        due.is("no way back", x.harness(20, 10, -1), -3);
        due.is("from below", x.harness(-1, 0, -1), -3);
        due.is("to beyond", x.harness(0, 300, -2), -3);
        due.is("to the palace", x.harness(280, 299, -1), 2);
        due.is("lowest first", x.harness(280, 299, 0), 0);
        due.is("no draw", x.about(5), 34);
    }

    private static void harnessOrder() {
        CountingHorses x = new CountingHorses();
        x.horse(1, 5);
        x.horse(5, 1);
        due.is("like ones: the lowest", x.harness(0, 5, 0), 0);
        due.stands(x, 0, "oats 9-horse;");
        x.by(0);
        due.is("fewest oats ahead of the lowest", x.harness(0, 5, 0), 1);
        due.is("its oats", x.harness(0, 5, -2), 8);
        x.horse(1, 9);
        x.horse(1, 1);
        due.is("the fewest ahead of oats", x.harness(0, 10, -1), 2);
        due.is("2 and 3, not 0 and 1", x.harness(0, 10, 0), 2);
        due.is("then 3", x.harness(0, 10, 1), 3);
        due.is("their oats", x.harness(0, 10, -2), 13);
        x.pass(1);
        x.bridge(1, 30);
        due.is("by another order", x.harness(0, 39, 0), 3);
        due.is("over the bridge", x.harness(0, 39, 1), 2);
    }

    private static void least() {
        CountingHorses x = new CountingHorses();
        x.horse(4, 3);
        due.is("one", x.least(0, 12, false), 1);
        due.is("as often as one likes", x.least(0, 120, false), 10);
        due.is("drives", x.least(0, 120, true), 10);
        due.is("none", x.least(0, 121, false), NONE);
        due.is("none", x.least(0, 121, true), NONE);
        due.is("the palace", x.least(0, 299, true), 25);
        due.is("it is there", x.least(7, 7, true), 0);
        due.is("no way back", x.least(12, 0, false), NONE);
        due.is("from below", x.least(-1, 5, false), NONE);
        due.is("from beyond", x.least(300, 300, true), NONE);
        due.is("to below", x.least(0, -1, false), NONE);
        due.is("to beyond", x.least(0, 300, true), NONE);
    }

    private static void leastDrives() {
        CountingHorses x = new CountingHorses();
        x.horse(1, 9);
        x.horse(1, 1);
        due.is("oats ahead of drives", x.least(0, 18, false), 0);
        due.is("of like ones the fewest", x.least(0, 18, true), 2);
        due.stands(x, 0, "oats if horse = 0 ? 20 : 2 end;");
        x.by(0);
        due.is("fewest oats", x.least(0, 18, false), 36);
        due.is("many drives", x.least(0, 18, true), 18);
        due.stands(x, 1, "oats 999;stride 1;");
        x.by(1);
        due.is("the most oats", x.least(0, 299, false), 299 * 999);
        due.is("the most drives", x.least(0, 299, true), 299);
        due.stands(x, 2, "oats day;");
        x.by(2);
        due.is("day 0", x.least(0, 10, false), 0);
        x.pass(3);
        due.is("by day as it is", x.least(0, 10, false), 6);
    }

    private static void thief() {
        CountingHorses x = new CountingHorses();
        for (int i = 1; i <= 5; i++) {
            x.horse(1, i);
        }
        due.is("1 2 3 and none else", x.thief(0, 6, -1), 1);
        due.is("it", x.thief(0, 6, 0), 7);
        due.is("1 2 5, 1 3 4", x.thief(0, 8, -1), 2);
        due.is("by number", x.thief(0, 8, 0), 13);
        due.is("by number", x.thief(0, 8, 1), 19);
        due.is("no third", x.thief(0, 8, 2), NONE);
        due.is("none", x.thief(0, 5, -1), 0);
        due.is("none such", x.thief(0, 5, 0), NONE);
        due.is("all at the palace", x.thief(299, 299, -1), 10);
        due.is("the last of them", x.thief(299, 299, 9), 28);
        due.is("below", x.thief(-1, 5, -1), NONE);
        due.is("beyond", x.thief(0, 300, -1), NONE);
        due.is("others", x.thief(0, 6, -2), NONE);
        x.bridge(5, 100);
        due.is("in some order over the bridge", x.thief(0, 106, -1), 1);
        due.is("5 first, then 2 and 4", x.thief(0, 106, 0), 26);
    }

    private static void seen() {
        CountingHorses x = new CountingHorses();
        x.horse(1, 5);
        x.horse(5, 1);
        x.horse(2, 5);
        due.is("others", x.seen(300), -2);
        due.is("others", x.seen(-2), -2);
        due.is("none seen", x.who(0, 0), -2);
        due.is("one", x.seen(5), 1);
        due.is("who", x.who(0, 0), 3);
        due.is("from another one", x.who(1, 0), 0);
        due.is("two", x.seen(10), 2);
        due.is("who is each from the stop ahead", x.who(0, 1), 3);
        due.is("that the first can't be is no matter", x.who(17, 1), 3);
        due.is("below", x.who(-1, 0), -2);
        due.is("beyond", x.who(300, -1), -2);
        due.is("others", x.who(0, -2), -2);
        due.is("none such", x.who(0, 2), -2);
        for (int i = 3; i <= 6; i++) {
            due.is("more", x.seen(299), i);
        }
        due.is("seventh", x.seen(299), -2);
        due.is("about", x.about(9), 6);
        due.is("at the palace each", x.who(0, 5), 7);
        due.is("none any more", x.seen(NONE), 0);
        due.is("about", x.about(9), 0);
    }

    private static void orders() {
        CountingHorses x = new CountingHorses();
        x.horse(1, 5);
        x.horse(5, 1);
        x.horse(2, 5);
        due.is("nothing seen", x.who(0, -1), 1);
        x.seen(5);
        due.is("two", x.who(0, -1), 2);
        x.seen(10);
        due.is("each once", x.who(0, -1), 2);
        x.seen(20);
        due.is("then the third", x.who(0, -1), 2);
        x.seen(25);
        due.is("none left", x.who(0, -1), 0);
        CountingHorses y = new CountingHorses();
        for (int i = 0; i < 6; i++) {
            y.horse(1, 1);
            y.seen(i + 1);
        }
        due.is("all orders", y.who(0, -1), 720);
    }

    private static void tried() {
        CountingHorses x = new CountingHorses();
        due.is("no horse", x.tried(0, 0, 0), -2);
        due.is("no text", x.taught(), 0);
        x.horse(4, 3);
        due.stands(x, 0, "");
        due.stands(x, 1, "steps 2; stride 6;");
        due.stands(x, 2, "stride 4-day;");
        due.is("all fit nothing", x.taught(), 7);
        due.is("one", x.tried(0, 0, 12), 1);
        due.is("without a law, and by another", x.taught(), 3);
        x.by(2);
        due.is("whoever rules", x.taught(), 3);
        x.pass(1);
        due.is("by day as it is", x.taught(), 7);
        due.is("two", x.tried(0, 290, 299), 2);
        due.is("all still", x.taught(), 7);
        due.is("three", x.tried(0, 100, 113), 3);
        due.is("none", x.taught(), 0);
        due.is("below", x.tried(-2, 0, 0), -2);
        due.is("beyond", x.tried(1, 0, 0), -2);
        due.is("from below", x.tried(0, -1, 0), -2);
        due.is("from beyond", x.tried(0, 300, 0), -2);
        due.is("stopped below", x.tried(0, 0, -1), -2);
        due.is("stopped beyond", x.tried(0, 0, 300), -2);
        for (int i = 4; i <= 10; i++) {
            due.is("more", x.tried(0, 0, 1), i);
        }
        due.is("eleventh", x.tried(0, 0, 1), -2);
        due.is("about", x.about(10), 10);
        due.is("none any more", x.tried(NONE, 0, 0), 0);
        due.is("about", x.about(10), 0);
        due.is("all fit nothing", x.taught(), 7);
    }

    private static void never() {
        CountingHorses x = new CountingHorses();
        for (int i = 0; i < 10; i++) {
            x.inn(i == 9 ? 299 : i);
        }
        due.is("without horses all", x.never(), 1023);
        x.horse(1, 5);
        due.is("0 to 4", x.never(), 31);
        x.horse(1, 2);
        due.is("0 and 1", x.never(), 3);
        x.bridge(8, 20);
        due.is("8 is gone over", x.never(), 3 + 256);
        due.stands(x, 0, "steps if place = 1 ? 0 : count end;");
        x.by(0);
        due.is("1 is stayed at, 3 was come to from there alone", x.never(), 1 + 8 + 256);
        CountingHorses y = new CountingHorses();
        y.inn(299);
        y.horse(1, 1);
        y.mud(0, 299, 9);
        due.is("from 299, too", y.never(), 0);
        y.inn(298);
        due.is("each stays where it is", y.never(), 0);
    }

    private static void image() {
        CountingHorses x = new CountingHorses();
        x.horse(4, 3);
        x.inn(9);
        x.bridge(50, 60);
        x.mud(70, 80, 3);
        x.weather(2, 500);
        x.drive(0);
        x.pass(4);
        x.seen(12);
        x.tried(0, 0, 12);
        int[] about = new int[500];
        for (int what = 0; what < about.length; what++) {
            about[what] = x.about(what);
        }
        int place = x.coach(0);
        int oats = x.coach(1);
        due.is("image", x.image(), place);
        x.horse(9, 9);
        x.inn(100);
        x.move(0, 3);
        x.bridge(1, 2);
        x.mud(0, 299, 1);
        x.weather(9, 9);
        x.drive(1);
        x.pass(40);
        x.seen(NONE);
        x.seen(1);
        x.seen(2);
        x.tried(NONE, 0, 0);
        x.tried(1, 3, 3);
        Due.putOnTape(x, "oats");
        due.is("back", x.back(), place);
        for (int what = 0; what < about.length; what++) {
            due.is("about(" + what + ")", x.about(what), what == 11 ? 4 : about[what]);
        }
        due.is("oats", x.coach(1), oats);
        due.is("who", x.who(0, 0), 1);
        due.stands(x, 0, "");
        due.is("taught", x.taught(), 1);
        due.is("steps back are of the image", x.undo(), 4);
        due.is("day", x.about(3), 3);
        x.start(200);
        due.is("it stays", x.back(), place);
        due.is("steps back again", x.about(8), 5);
        due.is("day again", x.about(3), 4);
    }

    private static void imageOfTexts() {
        CountingHorses x = new CountingHorses();
        x.horse(4, 3);
        due.stands(x, 0, "steps 1;");
        x.by(0);
        x.image();
        due.stands(x, 1, "steps 2;");
        x.by(1);
        due.is("text 1 rules", x.would(0, 0, 2), 2);
        Due.read(x, "oats gone gone;");
        due.is("back", x.back(), 0);
        due.is("the fault is not of the image", x.fault(1), 10);
        due.is("texts", x.about(6), 1);
        due.is("text 0 rules", x.would(0, 0, 2), 1);
        due.no("text 1 is gone", x.by(1));
        due.stands(x, 1, "steps 3;");
        x.by(1);
        due.is("another text 1", x.would(0, 0, 2), 3);
        due.is("stops by it", x.would(0, 0, 0), 9);
        x.back();
        due.is("stops by text 0", x.would(0, 0, 0), 3);
    }
}
