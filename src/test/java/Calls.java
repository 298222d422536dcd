import java.lang.reflect.InvocationTargetException;
import java.lang.reflect.Method;
import java.lang.reflect.Modifier;
import java.util.Arrays;
import java.util.Comparator;
import java.util.List;
import java.util.stream.Collectors;

/** Calls told by name, so that a test's row is the call and its answer alone. */
final class Calls {
    static final List<Method> FACE = Arrays.stream(CountingHorses.class.getDeclaredMethods())
        .filter(m -> Modifier.isPublic(m.getModifiers()))
        .sorted(Comparator.comparing(Method::getName)).toList();

    private Calls() {
    }

    static String told(String name, Object... args) {
        return name + Arrays.stream(args).map(String::valueOf)
            .collect(Collectors.joining(", ", "(", ")"));
    }

    /** The answer; a boolean counts 1 or 0. */
    static long made(CountingHorses x, String name, Object... args) {
        for (Method method : FACE) {
            if (method.getName().equals(name) && method.getParameterCount() == args.length) {
                return answered(method, x, args);
            }
        }
        throw new IllegalArgumentException("no such call: " + told(name, args));
    }

    private static long answered(Method method, CountingHorses x, Object... args) {
        try {
            Object answer = method.invoke(x, args);
            return answer instanceof Boolean b ? (b ? 1 : 0) : (Integer) answer;
        } catch (InvocationTargetException | IllegalAccessException e) {
            throw new IllegalStateException(told(method.getName(), args), e);
        }
    }
}
