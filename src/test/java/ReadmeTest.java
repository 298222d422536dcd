import java.io.IOException;
import java.lang.reflect.Method;
import java.nio.file.Files;
import java.nio.file.Path;
import java.util.HashMap;
import java.util.List;
import java.util.Map;
import java.util.Set;
import java.util.TreeSet;
import java.util.regex.Matcher;
import java.util.regex.Pattern;

/** What README.md says of the calls: each example's answer, and each refused call's. */
public final class ReadmeTest {
    private static final String ANSWER = "(-?\\d+|true|false|NONE)";
    private static final Pattern EXAMPLE =
        Pattern.compile("(?:int (\\w+) = )?mail\\.(\\w+)\\((.*?)\\); +// " + ANSWER + ": .*");
    private static final Pattern REFUSED = Pattern.compile("\\| " + ANSWER + " \\| (.*) \\|");
    // Each of these can always be done.
    private static final Set<String> NEVER_REFUSED = Set.of("taught", "never", "image", "back");

    private static final Due due = new Due();
    private static final Map<String, Object> told = new HashMap<>();
    private static final CountingHorses mail = Mails.empty();

    public static void main(String[] args) throws IOException {
        List<String> lines = Files.readAllLines(Path.of("README.md"));
        told.put("CountingHorses.NONE", CountingHorses.NONE);
        Set<String> face = new TreeSet<>();
        for (Method method : Calls.FACE) {
            face.add(method.getName());
        }
        due.yes("examples of " + face, examples(lines).equals(face));
        face.removeAll(NEVER_REFUSED);
        due.yes("refused are " + face, refused(lines).equals(face));
        due.close("ReadmeTest");
    }

    /** The calls that have an example. */
    private static Set<String> examples(List<String> lines) {
        Set<String> names = new TreeSet<>();
        boolean inside = false;
        for (String line : lines) {
            if (line.startsWith("```")) {
                inside = line.equals("```java");
            } else if (inside && !line.equals("CountingHorses mail = new CountingHorses();")) {
                names.add(example(line));
            }
        }
        return names;
    }

    private static String example(String line) {
        Matcher row = EXAMPLE.matcher(line);
        if (!row.matches()) {
            due.yes("an example with its answer: " + line, false);
            return line;
        }
        Object[] args = row.group(3).isEmpty() ? new Object[0]
            : Pattern.compile(", ").splitAsStream(row.group(3)).map(ReadmeTest::valueOf).toArray();
        long answer = Calls.made(mail, row.group(2), args);
        due.is(line, answer, numberOf(row.group(4)));
        if (row.group(1) != null) {
            told.put(row.group(1), (int) answer);
        }
        return row.group(2);
    }

    private static Object valueOf(String arg) {
        if (told.containsKey(arg)) {
            return told.get(arg);
        }
        return arg.equals("true") || arg.equals("false") ? (Object) arg.equals("true") : Integer.decode(arg);
    }

    private static long numberOf(String answer) {
        return switch (answer) {
            case "true" -> 1;
            case "false" -> 0;
            case "NONE" -> CountingHorses.NONE;
            default -> Long.parseLong(answer);
        };
    }

    /** The calls that can be refused; each is made where nothing more can be told or taken back. */
    private static Set<String> refused(List<String> lines) {
        Set<String> names = new TreeSet<>();
        for (String line : lines) {
            Matcher row = REFUSED.matcher(line);
            if (row.matches()) {
                for (String name : row.group(2).split(", ")) {
                    refuse(name, numberOf(row.group(1)));
                    names.add(name);
                }
            }
        }
        return names;
    }

    private static void refuse(String name, long answer) {
        for (Method method : Calls.FACE) {
            if (method.getName().equals(name)) {
                Object[] args = new Object[method.getParameterCount()];
                for (int i = 0; i < args.length; i++) {
                    args[i] = method.getParameterTypes()[i] == boolean.class ? (Object) true : Integer.MIN_VALUE;
                }
                due.changesNothing(ReadmeTest::nothingMore, answer, name, args);
            }
        }
    }

    private static CountingHorses nothingMore() {
        CountingHorses x = Mails.full();
        Mails.putOnTape(x, " ".repeat(300));
        x.start(0);
        return x;
    }
}
