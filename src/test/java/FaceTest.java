import java.lang.management.ManagementFactory;
import java.lang.reflect.Field;
import java.lang.reflect.Method;
import java.lang.reflect.Modifier;
import java.nio.file.Files;
import java.nio.file.Path;
import java.util.Arrays;
import java.util.Set;
import java.util.TreeSet;
import java.util.regex.Pattern;
import java.util.stream.Collectors;

/** The public face, the rules of LANGUAGE.md that can be looked at, and what a run makes. */
public final class FaceTest {
    private static final Due due = new Due();
    private static final Set<String> FACE = Set.of(
        "boolean mud(int, int, int)", "int bridge(int, int)", "int inn(int)",
        "boolean move(int, int)", "int horse(int, int)", "boolean weather(int, int)",
        "int feed(int, int, int, int, int)", "int end(int)", "int text()", "int fault(int)",
        "boolean by(int)", "boolean start(int)", "int would(int, int, int)", "int drive(int)",
        "int pass(int)", "int played(int)", "int undo()", "int coach(int)",
        "int harness(int, int, int)", "int least(int, int, boolean)", "int thief(int, int, int)",
        "int seen(int)", "int who(int, int)", "int tried(int, int, int)", "int taught()",
        "int never()", "int image()", "int back()", "int about(int)");

    public static void main(String[] args) throws Exception {
        face();
        inside();
        source();
        room();
        due.close("FaceTest");
    }

    private static void face() throws Exception {
        Class<?> c = CountingHorses.class;
        due.is("modifiers", c.getModifiers(), Modifier.PUBLIC | Modifier.FINAL);
        due.is("constructors", c.getDeclaredConstructors().length, 1);
        due.yes("public constructor", Modifier.isPublic(c.getDeclaredConstructor().getModifiers()));
        Set<String> found = new TreeSet<>();
        for (Method m : c.getDeclaredMethods()) {
            if (!Modifier.isPrivate(m.getModifiers())) {
                due.is("modifiers of " + m, m.getModifiers(), Modifier.PUBLIC);
                found.add(m.getReturnType() + " " + m.getName() + Arrays.stream(m.getParameterTypes())
                    .map(Class::getName).collect(Collectors.joining(", ", "(", ")")));
            }
        }
        due.yes("the face is " + found, found.equals(new TreeSet<>(FACE)));
        for (Field f : c.getDeclaredFields()) {
            boolean none = f.getName().equals("NONE");
            due.is("is private: " + f, Modifier.isPrivate(f.getModifiers()) ? 1 : 0, none ? 0 : 1);
            due.yes("is final: " + f, Modifier.isFinal(f.getModifiers()));
        }
        due.is("NONE", CountingHorses.NONE, -1);
    }

    private static void inside() {
        Set<String> names = Arrays.stream(CountingHorses.class.getMethods())
            .map(Method::getName).collect(Collectors.toSet());
        Class<?>[] inside = CountingHorses.class.getDeclaredClasses();
        due.yes("twelve classes at most", inside.length + 1 <= 12);
        for (Class<?> c : inside) {
            due.yes("static: " + c, Modifier.isStatic(c.getModifiers()));
            due.no("not public: " + c, Modifier.isPublic(c.getModifiers()));
            due.yes("twenty fields at most: " + c, c.getDeclaredFields().length <= 20);
            for (Method m : c.getDeclaredMethods()) {
                due.no("a public method's name: " + m, names.contains(m.getName()));
                due.yes("seven parameters at most: " + m, m.getParameterCount() <= 7);
            }
        }
        for (Method m : CountingHorses.class.getDeclaredMethods()) {
            due.no("a public method's name: " + m,
                Modifier.isPrivate(m.getModifiers()) && names.contains(m.getName()));
        }
    }

    private static void source() throws Exception {
        String source = Files.readString(Path.of("src/main/java/CountingHorses.java"));
        String code = source.replaceAll("(?s)/\\*.*?\\*/", "").replaceAll("//[^\n]*", "")
            .replaceAll("\"[^\"]*\"", "\"\"");
        String[] never = {"\\bthrow\\b", "\\bthrows\\b", "\\btry\\b", "\\bcatch\\b",
            "\\bsynchronized\\b", "\\bassert\\b", "->", "::", "\\bpackage\\b", "\\bnull\\b",
            "\\bThread\\b", "\\bRandom\\b", "\"\"\\s*\\+", "\\+\\s*\"\"", "Exact\\b",
            "\\bhashCode\\b", "\\btoString\\b", "\\bstatic\\s*\\{"};
        for (String word : never) {
            due.no("source has " + word, Pattern.compile(word).matcher(code).find());
        }
        due.is("imports", code.split("\\bimport\\b", -1).length - 1, 1);
        due.yes("signs are 1 to 127", source.chars().allMatch(c -> c > 0 && c < 128));
    }

    /** What calls make is never freed in the room of a run: they make nothing at all. */
    private static void room() {
        String law = "steps if mud<place?count:9 end;stride 1+step/(step+1)*3;oats gone*2;";
        for (int i = 0; i < 50; i++) {
            calls(new CountingHorses(), law);
        }
        CountingHorses x = new CountingHorses();
        var bean = (com.sun.management.ThreadMXBean) ManagementFactory.getThreadMXBean();
        long thread = Thread.currentThread().getId();
        bean.getThreadAllocatedBytes(thread);
        long before = bean.getThreadAllocatedBytes(thread);
        calls(x, law);
        long made = bean.getThreadAllocatedBytes(thread) - before;
        due.yes("calls made " + made + " bytes", made < 4096);
        before = bean.getThreadAllocatedBytes(thread);
        calls(new CountingHorses(), law);
        made = bean.getThreadAllocatedBytes(thread) - before;
        due.yes("a new object made " + made + " bytes", made < 100000);
    }

    private static void calls(CountingHorses x, String law) {
        for (int i = 1; i <= 6; i++) {
            x.horse(i * 3, i);
            x.inn(i * 40);
        }
        Mails.putOnTape(x, law);
        x.text();
        x.by(0);
        x.bridge(4, 44);
        x.seen(9);
        x.tried(0, 0, 9);
        for (int i = 0; i < 30; i++) {
            x.mud(i, i + 50, i % 9);
            x.drive(i % 6);
            x.harness(0, i * 9, 0);
            x.least(0, i * 9, true);
            x.thief(0, i * 9, -1);
            x.who(0, -1);
            x.taught();
            x.never();
            x.pass(1);
            x.move(0, i);
            x.undo();
            x.image();
            x.back();
        }
    }
}
