/** Promises 1 to 7, and what promise 30 tells of them. */
public final class RoadTest {
    private static final int NONE = CountingHorses.NONE;
    private static final Due due = new Due();

    public static void main(String[] args) {
        aNewObject();
        mud();
        bridge();
        inn();
        move();
        horse();
        weather();
        due.close("RoadTest");
    }

    private static void aNewObject() {
        CountingHorses x = new CountingHorses();
        int[] first = {0, 0, 0, 0, 0, 13, 0, NONE, 0, 0, 0, 0, -2};
        for (int what = 0; what < first.length; what++) {
            due.is("new about(" + what + ")", x.about(what), first[what]);
        }
        for (int place = 0; place < 300; place++) {
            due.is("new mud of " + place, x.about(100 + place), 0);
        }
        due.is("new place", x.coach(0), 0);
        due.is("new oats", x.coach(1), 0);
        due.is("new drives", x.coach(2), 0);
        due.is("new inn", x.coach(3), NONE);
        x.horse(3, 3);
        x.inn(4);
        x.start(7);
        due.is("back to the first image", x.back(), 0);
        due.is("no horse there", x.about(0), 0);
        due.is("no inn there", x.about(2), 0);
    }

    private static void mud() {
        CountingHorses x = new CountingHorses();
        due.yes("mud of all", x.mud(0, 299, 9));
        due.is("mud 0", x.about(100), 9);
        due.is("mud 299", x.about(399), 9);
        due.yes("mud of one", x.mud(5, 5, 0));
        due.is("mud 4", x.about(104), 9);
        due.is("mud 5", x.about(105), 0);
        due.is("mud 6", x.about(106), 9);
        due.no("from below", x.mud(-1, 5, 1));
        due.no("to beyond", x.mud(5, 300, 1));
        due.no("to below from", x.mud(6, 5, 1));
        due.no("depth below", x.mud(5, 5, -1));
        due.no("depth beyond", x.mud(5, 5, 10));
        due.no("far", x.mud(Integer.MIN_VALUE, Integer.MAX_VALUE, 1));
        due.is("mud 5 stays", x.about(105), 0);
        due.is("about below", x.about(99), -2);
        due.is("about beyond", x.about(400), -2);
        due.is("about far below", x.about(Integer.MIN_VALUE), -2);
        due.is("about far beyond", x.about(Integer.MAX_VALUE), -2);
    }

    private static void bridge() {
        CountingHorses x = new CountingHorses();
        due.is("from below", x.bridge(-1, 5), NONE);
        due.is("to beyond", x.bridge(5, 300), NONE);
        due.is("to itself", x.bridge(5, 5), NONE);
        due.is("to an earlier one", x.bridge(5, 4), NONE);
        due.is("first", x.bridge(0, 299), 1);
        due.is("second", x.bridge(3, 10), 2);
        due.is("third from the same", x.bridge(3, 20), 3);
        due.is("fourth", x.bridge(10, 30), 4);
        due.is("fifth", x.bridge(1, 2), NONE);
        due.is("bridges", x.about(1), 4);
        x.horse(1, 3);
        x.horse(3, 1);
        due.is("the first one told, not another in that step", x.would(0, 0, 0), 10);
        due.is("not over the one that it sets out from", x.would(0, 10, 0), 13);
        due.is("a bridge at the last of the steps", x.would(1, 0, 0), 10);
        x.mud(10, 10, 9);
        due.is("gone on by 0 onto the bridge", x.would(0, 10, 0), 30);
        x.mud(0, 0, 9);
        due.is("the bridge to the palace", x.would(1, 0, 0), 299);
    }

    private static void inn() {
        CountingHorses x = new CountingHorses();
        due.is("below", x.inn(-1), NONE);
        due.is("beyond", x.inn(300), NONE);
        due.is("no inn yet", x.about(20), -2);
        for (int i = 0; i < 10; i++) {
            due.is("inn", x.inn(i == 1 ? 0 : i * 30), i + 1);
        }
        due.is("eleventh", x.inn(5), NONE);
        due.is("inns", x.about(2), 10);
        due.is("inn 1", x.about(21), 0);
        due.is("inn 9", x.about(29), 270);
        due.is("inn 10", x.about(30), -2);
        due.is("the lowest inn there", x.coach(3), 0);
    }

    private static void move() {
        CountingHorses x = new CountingHorses();
        due.no("none yet", x.move(0, 5));
        x.inn(5);
        x.inn(6);
        due.no("it is there", x.move(0, 5));
        due.no("below", x.move(-1, 7));
        due.no("beyond", x.move(2, 7));
        due.no("place below", x.move(1, -1));
        due.no("place beyond", x.move(1, 300));
        due.is("no step back", x.about(8), 0);
        due.yes("to another's place", x.move(1, 5));
        due.is("both there", x.about(21), 5);
        due.is("a step back", x.about(8), 1);
        due.yes("on", x.move(1, 299));
        due.is("taken back", x.undo(), 1);
        due.is("as ahead", x.about(21), 5);
        due.is("taken back", x.undo(), 0);
        due.is("as at first", x.about(21), 6);
    }

    private static void horse() {
        CountingHorses x = new CountingHorses();
        due.is("count below", x.horse(0, 1), NONE);
        due.is("count beyond", x.horse(100, 1), NONE);
        due.is("shoe below", x.horse(1, 0), NONE);
        due.is("shoe beyond", x.horse(1, 10), NONE);
        due.is("least", x.horse(1, 1), 0);
        due.is("most", x.horse(99, 9), 1);
        for (int i = 2; i < 6; i++) {
            due.is("horse", x.horse(i, i), i);
        }
        due.is("seventh", x.horse(1, 1), NONE);
        due.is("horses", x.about(0), 6);
        due.is("least goes", x.would(0, 0, 0), 1);
        due.is("most goes", x.would(1, 0, 0), 299);
        due.is("most steps", x.would(1, 0, 2), 99);
    }

    private static void weather() {
        CountingHorses x = new CountingHorses();
        due.no("slip below", x.weather(-1, 0));
        due.no("slip beyond", x.weather(11, 0));
        due.no("seed below", x.weather(0, -1));
        due.no("seed beyond", x.weather(0, 10000));
        due.is("slip stays", x.about(4), 0);
        due.is("x stays", x.about(5), 13);
        due.yes("most", x.weather(10, 9999));
        due.is("slip", x.about(4), 10);
        due.is("x", x.about(5), 9999 * 7 + 13);
        due.yes("least", x.weather(0, 0));
        due.is("slip", x.about(4), 0);
        due.is("x", x.about(5), 13);
    }
}
