import java.util.ArrayDeque;
import java.util.ArrayList;
import java.util.Arrays;
import java.util.HashSet;
import java.util.List;
import java.util.Map;
import java.util.Set;
import java.util.TreeSet;
import java.util.regex.Matcher;
import java.util.regex.Pattern;

/**
 * The document once more, written another way: nothing is kept between calls, every question is
 * answered by trying all there is, laws are trees. ModelTest sets it beside the class.
 */
final class Model {
    static final int NONE = -1;

    /** What an image holds; copied whole. */
    static final class State {
        int[] mud = new int[300];
        List<int[]> bridges = new ArrayList<>();
        List<Integer> inns = new ArrayList<>();
        List<int[]> horses = new ArrayList<>();
        int place;
        int oats;
        int drives;
        int day;
        int slip;
        int x = 13;
        List<Script> texts = new ArrayList<>();
        int ruling = NONE;
        ArrayDeque<Object[]> back = new ArrayDeque<>();
        List<Integer> seen = new ArrayList<>();
        List<int[]> tried = new ArrayList<>();

        State copy() {
            State s = new State();
            s.mud = mud.clone();
            s.bridges = new ArrayList<>(bridges);
            s.inns = new ArrayList<>(inns);
            s.horses = new ArrayList<>(horses);
            s.place = place;
            s.oats = oats;
            s.drives = drives;
            s.day = day;
            s.slip = slip;
            s.x = x;
            s.texts = new ArrayList<>(texts);
            s.ruling = ruling;
            s.back = new ArrayDeque<>(back);
            s.seen = new ArrayList<>(seen);
            s.tried = new ArrayList<>(tried);
            return s;
        }
    }

    interface Sum {
        long of(Map<String, Integer> names);
    }

    interface Ask {
        boolean of(Map<String, Integer> names);
    }

    static final class Script {
        Sum steps;
        Sum stride;
        Sum oats;
        final List<String> kinds = new ArrayList<>();
        final List<Integer> numbers = new ArrayList<>();
    }

    static final class Fault extends RuntimeException {
        private static final long serialVersionUID = 1L;
        final int what;
        final int at;

        Fault(int what, int at) {
            super(null, null, false, false);
            this.what = what;
            this.at = at;
        }
    }

    private State s = new State();
    private State kept = new State();
    private final StringBuilder tape = new StringBuilder();
    private int fault = NONE;
    private int faultAt = NONE;

    private static boolean place(int p) {
        return p >= 0 && p <= 299;
    }

    public boolean mud(int from, int to, int depth) {
        if (!place(from) || !place(to) || to < from || depth < 0 || depth > 9) {
            return false;
        }
        Arrays.fill(s.mud, from, to + 1, depth);
        return true;
    }

    public int bridge(int from, int to) {
        if (!place(from) || !place(to) || to <= from || s.bridges.size() == 4) {
            return NONE;
        }
        s.bridges.add(new int[] {from, to});
        return s.bridges.size();
    }

    public int inn(int place) {
        if (!place(place) || s.inns.size() == 10) {
            return NONE;
        }
        s.inns.add(place);
        return s.inns.size();
    }

    public boolean move(int inn, int place) {
        if (inn < 0 || inn >= s.inns.size() || !place(place) || s.inns.get(inn) == place) {
            return false;
        }
        keep();
        s.inns.set(inn, place);
        return true;
    }

    public int horse(int count, int shoe) {
        if (count < 1 || count > 99 || shoe < 1 || shoe > 9 || s.horses.size() == 6) {
            return NONE;
        }
        s.horses.add(new int[] {count, shoe});
        return s.horses.size() - 1;
    }

    public boolean weather(int slip, int seed) {
        if (slip < 0 || slip > 10 || seed < 0 || seed > 9999) {
            return false;
        }
        s.slip = slip;
        s.x = seed * 7 + 13;
        return true;
    }

    public int feed(int a, int b, int c, int d, int e) {
        if (tape.length() > 280) {
            return NONE;
        }
        for (int four : new int[] {a, b, c, d, e}) {
            tape.append((char) (four >> 24 & 255)).append((char) (four >> 16 & 255));
            tape.append((char) (four >> 8 & 255)).append((char) (four & 255));
        }
        return tape.length();
    }

    public int end(int n) {
        if (n < 0 || n > tape.length()) {
            return NONE;
        }
        tape.setLength(n);
        return n;
    }

    public int text() {
        if (s.texts.size() == 4) {
            return NONE;
        }
        String read = tape.toString();
        tape.setLength(0);
        try {
            s.texts.add(new Parser(read).script());
        } catch (Fault f) {
            fault = f.what;
            faultAt = f.at;
            return NONE;
        }
        fault = 0;
        faultAt = NONE;
        return s.texts.size() - 1;
    }

    public int fault(int what) {
        return what == 0 ? fault : what == 1 ? faultAt : NONE;
    }

    public boolean by(int text) {
        if (text != NONE && (text < 0 || text >= s.texts.size())) {
            return false;
        }
        s.ruling = text;
        return true;
    }

    public boolean start(int place) {
        if (!place(place)) {
            return false;
        }
        s.place = place;
        s.oats = 0;
        s.drives = 0;
        s.back.clear();
        return true;
    }

    private Script law() {
        return s.ruling == NONE ? new Script() : s.texts.get(s.ruling);
    }

    private Map<String, Integer> names(int h, int place, int step, int gone) {
        return Map.of("horse", h, "count", s.horses.get(h)[0], "shoe", s.horses.get(h)[1],
            "day", s.day, "mud", s.mud[place], "place", place, "step", step, "gone", gone);
    }

    private static int cut(long v, int most) {
        return (int) Math.max(0, Math.min(most, v));
    }

    /** Stop, eaten, steps, x behind it. */
    private int[] run(Script law, int h, int from, int slip, int x) {
        int steps = law.steps == null ? s.horses.get(h)[0]
            : cut(law.steps.of(names(h, from, 0, 0)), 99);
        int at = from;
        for (int step = 1; step <= steps; step++) {
            if (at == 299) {
                break;
            }
            int by = law.stride == null ? Math.max(0, s.horses.get(h)[1] - s.mud[at])
                : cut(law.stride.of(names(h, at, step, 0)), 9);
            if (x % 10 < slip) {
                by = Math.max(0, by - 1);
            }
            x = (x * 193 + 89) % 30103;
            at = Math.min(299, at + by);
            int here = at;
            at = s.bridges.stream().filter(b -> b[0] == here).findFirst().map(b -> b[1]).orElse(at);
        }
        int gone = at - from;
        int eaten = law.oats == null ? gone / 10 : cut(law.oats.of(names(h, from, 0, gone)), 999);
        return new int[] {at, eaten, steps, x};
    }

    private int[] run(int h, int from) {
        return run(law(), h, from, 0, 0);
    }

    public int would(int horse, int place, int what) {
        if (horse < 0 || horse >= s.horses.size() || !place(place) || what < 0 || what > 2) {
            return NONE;
        }
        return run(horse, place)[what];
    }

    private void keep() {
        s.back.addLast(new Object[] {
            new int[] {s.place, s.oats, s.drives, s.day, s.x}, new ArrayList<>(s.inns)});
        if (s.back.size() > 30) {
            s.back.removeFirst();
        }
    }

    public int drive(int horse) {
        if (horse < 0 || horse >= s.horses.size() || s.place == 299) {
            return NONE;
        }
        keep();
        int[] done = run(law(), horse, s.place, s.slip, s.x);
        s.place = done[0];
        s.oats += done[1];
        s.drives++;
        s.x = done[3];
        return s.place;
    }

    public int pass(int days) {
        if (days < 1 || days > 99 || s.day + days > 999) {
            return NONE;
        }
        for (int i = 0; i < days; i++) {
            keep();
            s.day++;
        }
        return s.day;
    }

    public int played(int text) {
        if (text < 0 || text >= s.texts.size()) {
            return -2;
        }
        Script script = s.texts.get(text);
        for (int i = 0; i < script.kinds.size(); i++) {
            int number = script.numbers.get(i);
            String kind = script.kinds.get(i);
            if (kind.equals("drive") && drive(number) == NONE
                || kind.equals("pass") && pass(number) == NONE) {
                return i;
            }
        }
        return NONE;
    }

    @SuppressWarnings("unchecked")
    public int undo() {
        if (s.back.isEmpty()) {
            return NONE;
        }
        Object[] was = s.back.removeLast();
        int[] five = (int[]) was[0];
        s.place = five[0];
        s.oats = five[1];
        s.drives = five[2];
        s.day = five[3];
        s.x = five[4];
        s.inns = new ArrayList<>((List<Integer>) was[1]);
        return s.back.size();
    }

    public int coach(int what) {
        return switch (what) {
            case 0 -> s.place;
            case 1 -> s.oats;
            case 2 -> s.drives;
            case 3 -> s.inns.indexOf(s.place);
            default -> NONE;
        };
    }

    /** All orders of all sizes, the empty one first, by size and then from the lowest on. */
    private List<List<Integer>> orders() {
        List<List<Integer>> all = new ArrayList<>();
        all.add(List.of());
        for (int i = 0; i < all.size(); i++) {
            for (int h = 0; h < s.horses.size(); h++) {
                if (!all.get(i).contains(h)) {
                    List<Integer> longer = new ArrayList<>(all.get(i));
                    longer.add(h);
                    all.add(longer);
                }
            }
        }
        return all;
    }

    private int[][][] table() {
        int[][][] t = new int[s.horses.size()][300][];
        for (int h = 0; h < t.length; h++) {
            for (int p = 0; p < 300; p++) {
                t[h][p] = run(h, p);
            }
        }
        return t;
    }

    public int harness(int from, int to, int i) {
        if (!place(from) || !place(to)) {
            return -3;
        }
        int[][][] t = table();
        List<Integer> best = null;
        int bestOats = 0;
        for (List<Integer> order : orders()) {
            int at = from;
            int oats = 0;
            for (int h : order) {
                oats += t[h][at][1];
                at = t[h][at][0];
            }
            if (at == to && (best == null
                || best.size() == order.size() && oats < bestOats)) {
                best = order;
                bestOats = oats;
            }
        }
        if (best == null || i < -2 || i >= best.size()) {
            return -3;
        }
        return i == -1 ? best.size() : i == -2 ? bestOats : best.get(i);
    }

    public int least(int from, int to, boolean drives) {
        if (!place(from) || !place(to)) {
            return NONE;
        }
        int[][][] t = table();
        int[][] cost = new int[300][];
        cost[from] = new int[] {0, 0};
        for (boolean better = true; better;) {
            better = false;
            for (int p = 0; p < 300; p++) {
                for (int h = 0; cost[p] != null && h < t.length; h++) {
                    int q = t[h][p][0];
                    int[] c = {cost[p][0] + t[h][p][1], cost[p][1] + 1};
                    if (cost[q] == null || Arrays.compare(c, cost[q]) < 0) {
                        cost[q] = c;
                        better = true;
                    }
                }
            }
        }
        return cost[to] == null ? NONE : cost[to][drives ? 1 : 0];
    }

    public int thief(int from, int to, int i) {
        if (!place(from) || !place(to)) {
            return NONE;
        }
        TreeSet<Integer> sets = new TreeSet<>();
        for (List<Integer> order : orders()) {
            if (order.size() == 3) {
                int at = from;
                int set = 0;
                for (int h : order) {
                    at = run(h, at)[0];
                    set |= 1 << h;
                }
                if (at == to) {
                    sets.add(set);
                }
            }
        }
        if (i == NONE) {
            return sets.size();
        }
        return i < 0 || i >= sets.size() ? NONE : new ArrayList<>(sets).get(i);
    }

    public int seen(int place) {
        if (place == NONE) {
            s.seen.clear();
            return 0;
        }
        if (!place(place) || s.seen.size() == 6) {
            return -2;
        }
        s.seen.add(place);
        return s.seen.size();
    }

    public int who(int from, int i) {
        if (!place(from) || i < NONE || i >= s.seen.size()) {
            return -2;
        }
        List<Set<Integer>> can = new ArrayList<>();
        int at = from;
        for (int stop : s.seen) {
            Set<Integer> set = new HashSet<>();
            for (int h = 0; h < s.horses.size(); h++) {
                if (run(h, at)[0] == stop) {
                    set.add(h);
                }
            }
            can.add(set);
            at = stop;
        }
        if (i >= 0) {
            return can.get(i).stream().mapToInt(h -> 1 << h).sum();
        }
        int count = 0;
        for (List<Integer> order : orders()) {
            boolean fits = order.size() == s.seen.size();
            for (int k = 0; fits && k < order.size(); k++) {
                fits = can.get(k).contains(order.get(k));
            }
            count += fits ? 1 : 0;
        }
        return count;
    }

    public int tried(int horse, int from, int stopped) {
        if (horse == NONE) {
            s.tried.clear();
            return 0;
        }
        if (horse < 0 || horse >= s.horses.size() || !place(from) || !place(stopped)
            || s.tried.size() == 10) {
            return -2;
        }
        s.tried.add(new int[] {horse, from, stopped});
        return s.tried.size();
    }

    public int taught() {
        int bits = 0;
        for (int t = 0; t < s.texts.size(); t++) {
            Script law = s.texts.get(t);
            if (s.tried.stream().allMatch(w -> run(law, w[0], w[1], 0, 0)[0] == w[2])) {
                bits |= 1 << t;
            }
        }
        return bits;
    }

    public int never() {
        Set<Integer> stops = new HashSet<>();
        for (int[][] ofHorse : table()) {
            for (int[] run : ofHorse) {
                stops.add(run[0]);
            }
        }
        int bits = 0;
        for (int i = 0; i < s.inns.size(); i++) {
            bits |= stops.contains(s.inns.get(i)) ? 0 : 1 << i;
        }
        return bits;
    }

    public int image() {
        kept = s.copy();
        return s.place;
    }

    public int back() {
        s = kept.copy();
        return s.place;
    }

    public int about(int what) {
        if (what >= 100 && what < 400) {
            return s.mud[what - 100];
        }
        if (what >= 20 && what - 20 < s.inns.size()) {
            return s.inns.get(what - 20);
        }
        return switch (what) {
            case 0 -> s.horses.size();
            case 1 -> s.bridges.size();
            case 2 -> s.inns.size();
            case 3 -> s.day;
            case 4 -> s.slip;
            case 5 -> s.x;
            case 6 -> s.texts.size();
            case 7 -> s.ruling;
            case 8 -> s.back.size();
            case 9 -> s.seen.size();
            case 10 -> s.tried.size();
            case 11 -> tape.length();
            default -> -2;
        };
    }

    /** Reads a text into trees, or throws its first fault. */
    static final class Parser {
        private static final Pattern TOKEN =
            Pattern.compile("[a-zA-Z]+|[0-9]+|<=|>=|[<>=#+\\-*/();?:]");
        private static final Map<String, String> LAWS_OF = Map.of(
            "horse", "steps stride oats", "count", "steps stride oats",
            "shoe", "steps stride oats", "day", "steps stride oats", "mud", "steps stride",
            "place", "steps stride", "step", "stride", "gone", "oats");

        private final List<String> tokens = new ArrayList<>();
        private final List<Integer> ats = new ArrayList<>();
        private int i = 0;
        private String law = "";

        Parser(String text) {
            Matcher m = TOKEN.matcher(text);
            int at = 0;
            while (at < text.length()) {
                char c = text.charAt(at);
                if (c == 32 || c == 10) {
                    at++;
                } else if (m.region(at, text.length()).lookingAt()) {
                    tokens.add(m.group());
                    ats.add(at);
                    at = m.end();
                } else {
                    tokens.add("!");
                    ats.add(at);
                    at++;
                }
            }
            tokens.add("");
            ats.add(text.length());
        }

        private String now() {
            return tokens.get(i);
        }

        private Fault fault(int what) {
            return new Fault(what, ats.get(i));
        }

        private void take(String due) {
            if (!now().equals(due)) {
                throw fault(1);
            }
            i++;
        }

        private boolean takes(String could) {
            if (now().equals(could)) {
                i++;
                return true;
            }
            return false;
        }

        private boolean isNumber() {
            return now().matches("[0-9]+");
        }

        private int number(int least, int most) {
            if (!isNumber()) {
                throw fault(1);
            }
            java.math.BigInteger n = new java.math.BigInteger(now());
            if (n.bitLength() > 30 || n.intValue() < least || n.intValue() > most) {
                throw fault(2);
            }
            i++;
            return n.intValue();
        }

        Script script() {
            Script out = new Script();
            while (!now().isEmpty()) {
                String kind = now();
                if (!List.of("steps", "stride", "oats", "drive", "pass").contains(kind)) {
                    throw fault(1);
                }
                boolean lawful = kind.equals("steps") || kind.equals("stride")
                    || kind.equals("oats");
                if (lawful && out.kinds.contains(kind)) {
                    throw fault(4);
                }
                if (out.kinds.size() == 24) {
                    throw fault(6);
                }
                i++;
                int number = 0;
                if (lawful) {
                    law = kind;
                    Sum sum = sum(0);
                    switch (kind) {
                        case "steps" -> out.steps = sum;
                        case "stride" -> out.stride = sum;
                        default -> out.oats = sum;
                    }
                } else {
                    number = kind.equals("drive") ? number(0, 5) : number(1, 99);
                }
                take(";");
                out.kinds.add(kind);
                out.numbers.add(number);
            }
            return out;
        }

        private static long cut(long v) {
            return v > 1000000 ? 1000000 : v < -1000000 ? -1000000 : v;
        }

        private Sum sum(int open) {
            Sum left = product(open);
            while (now().equals("+") || now().equals("-")) {
                boolean plus = tokens.get(i++).equals("+");
                Sum a = left;
                Sum b = product(open);
                left = plus ? n -> cut(a.of(n) + b.of(n)) : n -> cut(a.of(n) - b.of(n));
            }
            return left;
        }

        private Sum product(int open) {
            Sum left = one(open);
            while (now().equals("*") || now().equals("/")) {
                boolean times = tokens.get(i++).equals("*");
                Sum a = left;
                Sum b = one(open);
                left = times ? n -> cut(a.of(n) * b.of(n)) : n -> b.of(n) == 0 ? 0 : a.of(n) / b.of(n);
            }
            return left;
        }

        private void open(int open) {
            if (open == 8) {
                throw fault(3);
            }
            i++;
        }

        private Sum one(int open) {
            String t = now();
            if (isNumber()) {
                int v = number(0, 9999);
                return n -> v;
            }
            if (LAWS_OF.containsKey(t)) {
                if (!Arrays.asList(LAWS_OF.get(t).split(" ")).contains(law)) {
                    throw fault(5);
                }
                i++;
                return n -> n.get(t);
            }
            if (t.equals("(")) {
                open(open);
                Sum in = sum(open + 1);
                take(")");
                return in;
            }
            if (t.equals("-")) {
                open(open);
                Sum in = one(open + 1);
                return n -> -in.of(n);
            }
            if (!t.equals("if")) {
                throw fault(1);
            }
            open(open);
            Ask ask = either(open + 1);
            take("?");
            Sum yes = sum(open + 1);
            take(":");
            Sum no = sum(open + 1);
            take("end");
            return n -> ask.of(n) ? yes.of(n) : no.of(n);
        }

        private Ask either(int open) {
            Ask left = both(open);
            while (takes("or")) {
                Ask a = left;
                Ask b = both(open);
                left = n -> a.of(n) | b.of(n);
            }
            return left;
        }

        private Ask both(int open) {
            Ask left = ask(open);
            while (takes("and")) {
                Ask a = left;
                Ask b = ask(open);
                left = n -> a.of(n) & b.of(n);
            }
            return left;
        }

        private Ask ask(int open) {
            if (now().equals("not")) {
                open(open);
                Ask in = ask(open + 1);
                return n -> !in.of(n);
            }
            Sum a = sum(open);
            String sign = now();
            if (!List.of("<", "<=", ">", ">=", "=", "#").contains(sign)) {
                throw fault(1);
            }
            i++;
            Sum b = sum(open);
            return switch (sign) {
                case "<" -> n -> a.of(n) < b.of(n);
                case "<=" -> n -> a.of(n) <= b.of(n);
                case ">" -> n -> a.of(n) > b.of(n);
                case ">=" -> n -> a.of(n) >= b.of(n);
                case "=" -> n -> a.of(n) == b.of(n);
                default -> n -> a.of(n) != b.of(n);
            };
        }
    }
}
