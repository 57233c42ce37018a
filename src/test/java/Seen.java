import java.lang.reflect.Method;
import java.util.HashMap;
import java.util.HashSet;
import java.util.List;
import java.util.Map;
import java.util.Set;

/** What the runs have told to each argument of the face, and what each call has thrown. */
final class Seen {
    private static final Map<String, Set<Object>> TOLD = new HashMap<>();
    private static final Map<String, Set<String>> THROWN = new HashMap<>();
    private static final List<Object> INTS = List.of(Integer.MIN_VALUE, Integer.MAX_VALUE, -1);
    private static final List<Object> SIGNS = List.of((char) 0, 'A', '-', (char) 255, (char) 65535);
    private static final List<Object> BOOLEANS = List.of(true, false);

    private Seen() {
    }

    static void note(Method method, Object[] arguments, String answer) {
        for (int i = 0; i < arguments.length; i++) {
            TOLD.computeIfAbsent(method.getName() + " " + i, key -> new HashSet<>()).add(arguments[i]);
        }
        if (answer.startsWith("throws.")) {
            THROWN.computeIfAbsent(method.getName(), key -> new HashSet<>()).add(answer);
        }
    }

    /** No argument is left out by the tests at the ends of its type, and no exception of the face. */
    static void checkAll(Iterable<Method> face) {
        Check.promise(Sentences.TERMS, "each argument and each exception has a test");
        for (Method method : face) {
            for (int i = 0; i < method.getParameterCount(); i++) {
                for (Object edge : edgesOf(method.getParameterTypes()[i])) {
                    Set<Object> told = TOLD.getOrDefault(method.getName() + " " + i, Set.of());
                    Check.isTrue(method.getName() + " was told " + edge + " as argument " + i, told.contains(edge));
                }
            }
            Set<String> due = new HashSet<>();
            for (Class<?> exception : method.getExceptionTypes()) {
                due.add("throws." + exception.getSimpleName());
            }
            Check.due("what " + method.getName() + " threw", THROWN.getOrDefault(method.getName(), Set.of()), due);
        }
    }

    private static List<Object> edgesOf(Class<?> type) {
        return type == int.class ? INTS : type == char.class ? SIGNS : BOOLEANS;
    }
}
