import java.util.ArrayList;
import java.util.List;
import java.util.Random;
import java.util.stream.LongStream;

/** Runs of drawn calls (seeds are fixed) on the class and on the model side by side. */
public final class ModelTest {
    private static final int RUNS = 240;
    // What later calls answer is free.
    private static final int MOST_CALLS = 512;
    // The loop may make so many of them before it looks again: a text of 300 bytes takes the most.
    private static final int AT_ONCE = 24;
    private static final String[] SIGNS = {"<", "<=", ">", ">=", "=", "#"};

    private final long seed;
    private final Random random;
    private final CountingHorses x = new CountingHorses();
    private final Model model = new Model();
    private final List<String> calls = new ArrayList<>();
    private final List<String> told = new ArrayList<>();
    private boolean wrong = false;
    private int made = 0;

    private ModelTest(long seed) {
        this.seed = seed;
        random = new Random(seed);
    }

    public static void main(String[] args) {
        int runs = args.length > 0 ? Integer.parseInt(args[0]) : RUNS;
        long first = args.length > 1 ? Long.parseLong(args[1]) : 1;
        List<ModelTest> done = LongStream.range(first, first + runs).parallel()
            .mapToObj(ModelTest::run).toList();
        for (ModelTest run : done) {
            if (run.wrong) {
                System.out.println("seed " + run.seed + ":");
                run.told.forEach(System.out::println);
                run.calls.forEach(System.out::println);
                System.exit(1);
            }
        }
        long looked = done.stream().mapToLong(run -> run.calls.size()).sum();
        System.out.println("ModelTest: " + runs + " runs, " + looked + " calls, all alike");
    }

    private static ModelTest run(long seed) {
        ModelTest run = new ModelTest(seed);
        run.go();
        return run;
    }

    private void check(String call, long got, long want) {
        made++;
        calls.add(call + " -> " + got + (got == want ? "" : " but the model says " + want));
        wrong |= got != want;
    }

    private void go() {
        boolean setUp = random.nextInt(8) != 0;
        if (setUp) {
            for (int i = random.nextInt(7); i > 0; i--) {
                horse();
            }
            for (int i = random.nextInt(4); i > 0; i--) {
                text();
            }
        }
        int until = random.nextInt(4) == 0 ? MOST_CALLS - 330 : MOST_CALLS - 30;
        while (made < until - AT_ONCE && !wrong) {
            call(random.nextInt(31));
        }
        for (int what = -1; what < 401 && made < MOST_CALLS && !wrong; what++) {
            if (what < 13 || what > 18 && what < 32 || what > 98) {
                check("about(" + what + ")", x.about(what), model.about(what));
            }
        }
    }

    private int upTo(int most) {
        return random.nextInt(most + 1);
    }

    /** Mostly of the range, now and then an edge, a neighbour or something far off. */
    private int near(int least, int most) {
        return switch (random.nextInt(24)) {
            case 0 -> least;
            case 1 -> most;
            case 2 -> least - 1;
            case 3 -> most + 1;
            case 4 -> random.nextInt(6) == 0 ? random.nextInt() : least;
            default -> least + random.nextInt(Math.max(1, most - least + 1));
        };
    }

    private int place() {
        return random.nextBoolean() ? near(0, 299) : near(0, 40);
    }

    /** A place that some horses lead to, that questions may have answers. */
    private int placeFrom(int from) {
        int at = from;
        for (int i = upTo(4); i > 0; i--) {
            int next = model.would(upTo(5), at, 0);
            at = next == Model.NONE ? at : next;
        }
        return random.nextInt(5) == 0 ? place() : at;
    }

    private long bool(boolean b) {
        return b ? 1 : 0;
    }

    private void horse() {
        int count = random.nextInt(3) == 0 ? near(1, 99) : near(1, 12);
        int shoe = near(1, 9);
        check("horse(" + count + ", " + shoe + ")", x.horse(count, shoe), model.horse(count, shoe));
    }

    private void call(int which) {
        int p = place();
        int q = placeFrom(p);
        int h = near(0, model.about(0) - 1);
        switch (which) {
            case 0 -> {
                int to = random.nextInt(4) == 0 ? q : p + upTo(30);
                int depth = near(0, 9);
                check("mud(" + p + ", " + to + ", " + depth + ")", bool(x.mud(p, to, depth)),
                    bool(model.mud(p, to, depth)));
            }
            case 1 -> check("bridge(" + p + ", " + q + ")", x.bridge(p, q), model.bridge(p, q));
            case 2 -> check("inn(" + p + ")", x.inn(p), model.inn(p));
            case 3 -> {
                int inn = near(0, model.about(2) - 1);
                check("move(" + inn + ", " + p + ")", bool(x.move(inn, p)), bool(model.move(inn, p)));
            }
            case 4 -> horse();
            case 5 -> {
                int slip = near(0, 10);
                int seed = near(0, 9999);
                check("weather(" + slip + ", " + seed + ")", bool(x.weather(slip, seed)),
                    bool(model.weather(slip, seed)));
            }
            case 6, 7 -> text();
            case 8 -> {
                int n = near(0, model.about(11));
                check("end(" + n + ")", x.end(n), model.end(n));
            }
            case 9 -> check("fault", x.fault(h), model.fault(h));
            case 10 -> {
                int text = near(-1, model.about(6) - 1);
                check("by(" + text + ")", bool(x.by(text)), bool(model.by(text)));
            }
            case 11 -> check("start(" + p + ")", bool(x.start(p)), bool(model.start(p)));
            case 12, 13 -> {
                int what = near(0, 2);
                check("would(" + h + ", " + p + ", " + what + ")", x.would(h, p, what),
                    model.would(h, p, what));
            }
            case 14, 15 -> check("drive(" + h + ")", x.drive(h), model.drive(h));
            case 16 -> {
                int days = random.nextBoolean() ? near(1, 4) : near(1, 99);
                check("pass(" + days + ")", x.pass(days), model.pass(days));
            }
            case 17 -> {
                int text = near(0, model.about(6) - 1);
                check("played(" + text + ")", x.played(text), model.played(text));
            }
            case 18 -> check("undo()", x.undo(), model.undo());
            default -> ask(which, p, q, h);
        }
    }

    private void ask(int which, int p, int q, int h) {
        switch (which) {
            case 19 -> {
                int what = near(0, 3);
                check("coach(" + what + ")", x.coach(what), model.coach(what));
            }
            case 20 -> {
                for (int i = -3; i < 5; i++) {
                    check("harness(" + p + ", " + q + ", " + i + ")", x.harness(p, q, i),
                        model.harness(p, q, i));
                }
            }
            case 21 -> {
                for (boolean drives : new boolean[] {false, true}) {
                    check("least(" + p + ", " + q + ", " + drives + ")", x.least(p, q, drives),
                        model.least(p, q, drives));
                }
            }
            case 22 -> {
                for (int i = -2; i < 4; i++) {
                    check("thief(" + p + ", " + q + ", " + i + ")", x.thief(p, q, i),
                        model.thief(p, q, i));
                }
            }
            case 23, 24 -> {
                int stop = random.nextInt(4) == 0 ? q : placeFrom(upTo(20));
                check("seen(" + stop + ")", x.seen(stop), model.seen(stop));
            }
            case 25 -> {
                int from = random.nextBoolean() ? p : upTo(20);
                for (int i = -2; i < 7; i++) {
                    check("who(" + from + ", " + i + ")", x.who(from, i), model.who(from, i));
                }
            }
            case 26 -> {
                int stop = random.nextInt(3) == 0 ? q : Math.max(0, model.would(h, p, 0));
                check("tried(" + h + ", " + p + ", " + stop + ")", x.tried(h, p, stop),
                    model.tried(h, p, stop));
            }
            case 27 -> check("taught()", x.taught(), model.taught());
            case 28 -> check("never()", x.never(), model.never());
            case 29 -> {
                if (random.nextInt(3) == 0) {
                    check("image()", x.image(), model.image());
                } else if (random.nextInt(3) == 0) {
                    check("back()", x.back(), model.back());
                }
            }
            default -> {
                int what = random.nextBoolean() ? near(0, 11) : near(20, 399);
                check("about(" + what + ")", x.about(what), model.about(what));
            }
        }
    }

    private void text() {
        String text = script();
        if (random.nextInt(3) == 0) {
            text = spoiled(text);
        }
        if (text.length() > 300) {
            text = text.substring(0, 300);
        }
        told.add("text: " + text);
        check("end(0)", x.end(0), model.end(0));
        for (int from = 0; from < text.length(); from += 20) {
            int[] f = new int[5];
            for (int i = 0; i < 5; i++) {
                f[i] = Mails.four(text, from + i * 4);
            }
            check("feed", x.feed(f[0], f[1], f[2], f[3], f[4]),
                model.feed(f[0], f[1], f[2], f[3], f[4]));
        }
        check("end(" + text.length() + ")", x.end(text.length()), model.end(text.length()));
        if (random.nextInt(20) != 0) {
            check("text()", x.text(), model.text());
        }
        check("fault(0)", x.fault(0), model.fault(0));
        check("fault(1)", x.fault(1), model.fault(1));
    }

    private String spoiled(String text) {
        StringBuilder b = new StringBuilder(text);
        String signs = " \n;?:()+-*/<>=#019azAZ!" + (char) 0 + (char) 200;
        for (int i = upTo(2); i >= 0 && b.length() > 0; i--) {
            int at = random.nextInt(b.length());
            char sign = signs.charAt(random.nextInt(signs.length()));
            switch (random.nextInt(3)) {
                case 0 -> b.deleteCharAt(at);
                case 1 -> b.insert(at, sign);
                default -> b.setCharAt(at, sign);
            }
        }
        return b.toString();
    }

    private String script() {
        StringBuilder b = new StringBuilder();
        boolean twice = random.nextInt(20) == 0;
        for (String law : new String[] {"steps", "stride", "oats", twice ? "stride" : "oats"}) {
            orders(b);
            if (random.nextBoolean() && (twice || b.indexOf(law) < 0)) {
                b.append(law).append(' ').append(sum(law, random.nextInt(4))).append(';').append(blank());
            }
        }
        orders(b);
        return b.toString();
    }

    private void orders(StringBuilder b) {
        for (int i = random.nextInt(25) == 0 ? 24 : upTo(1); i > 0; i--) {
            boolean drive = random.nextBoolean();
            int rare = random.nextInt(30) == 0 ? 1 : 0;
            b.append(drive ? "drive " + (upTo(3) + rare * 3) : "pass " + (1 + upTo(3) - rare));
            b.append(';').append(blank());
        }
    }

    private String blank() {
        return switch (random.nextInt(5)) {
            case 0 -> " ";
            case 1 -> "\n";
            default -> "";
        };
    }

    private String sum(String law, int depth) {
        StringBuilder b = new StringBuilder(product(law, depth));
        for (int i = upTo(2); i > 0; i--) {
            b.append(blank()).append(random.nextBoolean() ? "+" : "-").append(product(law, depth));
        }
        return b.toString();
    }

    private String product(String law, int depth) {
        StringBuilder b = new StringBuilder(one(law, depth));
        for (int i = random.nextInt(4) - 2; i > 0; i--) {
            b.append(random.nextBoolean() ? "*" : "/").append(blank()).append(one(law, depth));
        }
        return b.toString();
    }

    private String one(String law, int depth) {
        switch (random.nextInt(depth > 0 ? 8 : 4)) {
            case 0, 1:
                return String.valueOf(switch (random.nextInt(6)) {
                    case 0 -> upTo(9999);
                    case 1 -> upTo(100);
                    case 2 -> random.nextInt(20) == 0 ? 10000 : 7;
                    default -> upTo(9);
                });
            case 2, 3:
                return name(law);
            case 4:
                return "(" + sum(law, depth - 1) + ")";
            case 5:
                return "-" + one(law, depth - 1);
            default:
                return "if " + either(law, depth - 1) + " ?" + sum(law, depth - 1) + ":"
                    + blank() + sum(law, depth - 1) + " end";
        }
    }

    private String name(String law) {
        String all = switch (law) {
            case "steps" -> "horse count shoe day mud place";
            case "stride" -> "horse count shoe day mud place step step";
            default -> "horse count shoe day gone gone";
        };
        String[] names = random.nextInt(60) == 0 ? "mud place step gone steps foo".split(" ")
            : all.split(" ");
        return names[random.nextInt(names.length)];
    }

    private String either(String law, int depth) {
        StringBuilder b = new StringBuilder(ask(law, depth));
        for (int i = random.nextInt(4) - 1; i > 0; i--) {
            b.append(random.nextBoolean() ? " or " : " and ").append(ask(law, depth));
        }
        return b.toString();
    }

    private String ask(String law, int depth) {
        if (random.nextInt(4) == 0) {
            return "not " + ask(law, depth);
        }
        int less = Math.max(0, depth - 1);
        return sum(law, less) + SIGNS[random.nextInt(SIGNS.length)] + sum(law, less);
    }
}
