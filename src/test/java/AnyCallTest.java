import java.lang.reflect.Method;
import java.util.Random;

/** LANGUAGE.md's rules 7 and 13: any call in any state answers, and twice the same. */
public final class AnyCallTest {
    private static final int RUNS = 300;
    // Some are beyond the 512th: their answers are free, but they must not throw either.
    private static final int CALLS = 600;
    private static final int[] EDGES = {Integer.MIN_VALUE, -300, -3, -2, -1, 0, 1, 2, 3, 4, 5, 6, 7, 9,
        10, 11, 20, 29, 30, 99, 100, 280, 298, 299, 300, 301, 399, 400, 999, 9999, 10000,
        Integer.MAX_VALUE};
    private static final String[] WORDS = {"steps ", "stride ", "oats ", "drive ", "pass ", "if ",
        " end", " or ", " and ", "not ", "horse", "count", "shoe", "day", "mud", "place", "step", "gone",
        "<", "<=", ">", ">=", "=", "#", "+", "-", "*", "/", "(", ")", ";", "?", ":", "0", "1", "9999",
        "steps count+day;", "stride step+horse;", "oats gone*9;", "drive 0;", "pass 9;", "!"};
    private static final Due due = new Due();

    public static void main(String[] args) {
        for (int seed = 0; seed < RUNS; seed++) {
            run(new Random(seed), seed);
        }
        due.close("AnyCallTest");
    }

    private static void run(Random random, int seed) {
        CountingHorses x = new CountingHorses();
        CountingHorses twin = new CountingHorses();
        for (int i = 0; i < CALLS; i++) {
            Method method = Calls.FACE.get(random.nextInt(Calls.FACE.size()));
            if (method.getName().equals("text") && random.nextInt(3) > 0) {
                String text = drawnText(random);
                Mails.putOnTape(x, text);
                Mails.putOnTape(twin, text);
            }
            Object[] args = drawn(method, random);
            due.call(x, Calls.made(twin, method.getName(), args), method.getName(), args);
        }
        due.is("the place of seed " + seed, x.coach(0), twin.coach(0));
    }

    private static Object[] drawn(Method method, Random random) {
        Object[] args = new Object[method.getParameterCount()];
        for (int i = 0; i < args.length; i++) {
            if (method.getParameterTypes()[i] == boolean.class) {
                args[i] = random.nextBoolean();
            } else {
                args[i] = switch (random.nextInt(8)) {
                    case 0 -> random.nextInt();
                    case 1, 2, 3 -> EDGES[random.nextInt(EDGES.length)];
                    default -> random.nextInt(40);
                };
            }
        }
        return args;
    }

    private static String drawnText(Random random) {
        StringBuilder text = new StringBuilder();
        for (int i = random.nextInt(random.nextBoolean() ? 6 : 120); i >= 0; i--) {
            text.append(WORDS[random.nextInt(WORDS.length)]);
        }
        text.setLength(Math.min(text.length(), 300));
        return text.toString();
    }
}
