import java.lang.management.ManagementFactory;
import java.lang.reflect.Field;
import java.lang.reflect.Method;
import java.lang.reflect.Modifier;
import java.nio.file.Files;
import java.nio.file.Path;
import java.util.Arrays;
import java.util.Set;
import java.util.TreeSet;
import java.util.regex.Matcher;
import java.util.regex.Pattern;
import java.util.stream.Collectors;

/** The public face, the rules of LANGUAGE.md that can be looked at, and what a run makes. */
public final class FaceTest {
    private static final Due due = new Due();

    public static void main(String[] args) throws Exception {
        face();
        inside();
        source();
        room();
        due.close("FaceTest");
    }

    private static void face() throws Exception {
        Class<?> c = CountingHorses.class;
        due.is("modifiers", c.getModifiers(), Modifier.PUBLIC | Modifier.FINAL);
        due.is("constructors", c.getDeclaredConstructors().length, 1);
        due.yes("public constructor", Modifier.isPublic(c.getDeclaredConstructor().getModifiers()));
        Set<String> found = new TreeSet<>();
        for (Method m : c.getDeclaredMethods()) {
            if (!Modifier.isPrivate(m.getModifiers())) {
                due.is("modifiers of " + m, m.getModifiers(), Modifier.PUBLIC);
                found.add(m.getReturnType() + " " + m.getName() + Arrays.stream(m.getParameterTypes())
                    .map(Class::getName).collect(Collectors.joining(", ", "(", ")")));
            }
        }
        due.yes("the face is " + found, found.equals(told()));
        for (Field f : c.getDeclaredFields()) {
            boolean none = f.getName().equals("NONE");
            due.is("is private: " + f, Modifier.isPrivate(f.getModifiers()) ? 1 : 0, none ? 0 : 1);
            due.yes("is final: " + f, Modifier.isFinal(f.getModifiers()));
        }
        due.is("NONE", CountingHorses.NONE, -1);
    }

    /** The methods of the document's code block, without their parameters' names. */
    private static Set<String> told() {
        Set<String> told = new TreeSet<>();
        Matcher row = Pattern.compile("public (\\w+ \\w+\\(.*\\));").matcher(new Doc().section(Doc.FACE));
        while (row.find()) {
            told.add(row.group(1).replaceAll("(int|boolean) \\w+([,)])", "$1$2"));
        }
        return told;
    }

    private static void inside() {
        Set<String> names = Arrays.stream(CountingHorses.class.getMethods())
            .map(Method::getName).collect(Collectors.toSet());
        Class<?>[] inside = CountingHorses.class.getDeclaredClasses();
        due.yes("twelve classes at most", inside.length + 1 <= 12);
        for (Class<?> c : inside) {
            due.yes("static: " + c, Modifier.isStatic(c.getModifiers()));
            due.no("not public: " + c, Modifier.isPublic(c.getModifiers()));
            due.yes("twenty fields at most: " + c, c.getDeclaredFields().length <= 20);
            for (Method m : c.getDeclaredMethods()) {
                due.no("a public method's name: " + m, names.contains(m.getName()));
                due.yes("seven parameters at most: " + m, m.getParameterCount() <= 7);
            }
        }
        for (Method m : CountingHorses.class.getDeclaredMethods()) {
            due.no("a public method's name: " + m,
                Modifier.isPrivate(m.getModifiers()) && names.contains(m.getName()));
        }
    }

    private static void source() throws Exception {
        String source = Files.readString(Path.of("src/main/java/CountingHorses.java"));
        due.yes("signs are 1 to 127", source.chars().allMatch(c -> c > 0 && c < 128));
        String code = source.replaceAll("(?s)/\\*.*?\\*/", "").replaceAll("//[^\n]*", "")
            .replaceAll("\"[^\"]*\"", "\"\"");
        String[] never = {"\\bthrow\\b", "\\bthrows\\b", "\\btry\\b", "\\bcatch\\b",
            "\\bsynchronized\\b", "\\bassert\\b", "->", "::", "\\bpackage\\b", "\\bnull\\b",
            "\\bThread\\b", "\\bRandom\\b", "\"\"\\s*\\+", "\\+\\s*\"\"", "Exact\\b",
            "\\bhashCode\\b", "\\btoString\\b", "\\bstatic\\s*\\{"};
        for (String word : never) {
            due.no("source has " + word, Pattern.compile(word).matcher(code).find());
        }
        library(code);
        lengths(code);
    }

    private static void library(String code) {
        due.is("imports", code.split("\\bimport\\b", -1).length - 1, 1);
        Set<String> used = Set.of("System.arraycopy", "Arrays.fill", "Math.min", "Math.max",
            "Integer.bitCount");
        Matcher call = Pattern.compile("\\b[A-Z][a-z]+\\.\\w+").matcher(code);
        while (call.find()) {
            due.yes("is of the library: " + call.group(), used.contains(call.group()));
        }
    }

    private static void lengths(String code) {
        Matcher method = Pattern.compile("(?s)\n( +)[^\n]*\\) \\{\n.*?\n\\1\\}").matcher(code);
        while (method.find()) {
            due.yes("sixty lines at most: " + method.group(), method.group().strip().lines().count() <= 60);
        }
    }

    /** What calls make is never freed in the room of a run: they make nothing at all. */
    private static void room() {
        String law = "steps if mud<place?count:9 end;stride 1+step/(step+1)*3;oats gone*2;";
        for (int i = 0; i < 50; i++) {
            calls(new CountingHorses(), law);
        }
        CountingHorses x = new CountingHorses();
        var bean = (com.sun.management.ThreadMXBean) ManagementFactory.getThreadMXBean();
        long thread = Thread.currentThread().getId();
        bean.getThreadAllocatedBytes(thread);
        long before = bean.getThreadAllocatedBytes(thread);
        calls(x, law);
        long made = bean.getThreadAllocatedBytes(thread) - before;
        due.yes("calls made " + made + " bytes", made < 4096);
        before = bean.getThreadAllocatedBytes(thread);
        calls(new CountingHorses(), law);
        made = bean.getThreadAllocatedBytes(thread) - before;
        due.yes("a new object made " + made + " bytes", made < 100000);
    }

    private static void calls(CountingHorses x, String law) {
        for (int i = 1; i <= 6; i++) {
            x.horse(i * 3, i);
            x.inn(i * 40);
        }
        Mails.putOnTape(x, law);
        x.text();
        x.by(0);
        x.bridge(4, 44);
        x.seen(9);
        x.tried(0, 0, 9);
        for (int i = 0; i < 30; i++) {
            x.mud(i, i + 50, i % 9);
            x.drive(i % 6);
            x.harness(0, i * 9, 0);
            x.least(0, i * 9, true);
            x.thief(0, i * 9, -1);
            x.who(0, -1);
            x.taught();
            x.never();
            x.pass(1);
            x.move(0, i);
            x.undo();
            x.image();
            x.back();
        }
    }
}
