import java.lang.reflect.InvocationTargetException;
import java.lang.reflect.Method;
import java.util.ArrayList;
import java.util.Arrays;
import java.util.Collections;
import java.util.HashMap;
import java.util.List;
import java.util.Map;
import java.util.Random;

/** Long runs of drawn calls, right and wrong ones, answered by the class and by PlainRegister alike. */
public final class ModelTest {
    private static final int RUNS = 420;
    private static final int CALLS = 512;
    private static final long SEED = 20261119L;

    /** Each call: its name, a letter for each argument (see draw), and how often it is drawn. */
    private static final String[] CALLS_TO_DRAW = {
        "days d 10", "setSystem Ls 4", "setMarriage Lr 5", "ban LGz 5", "forbid Lz 4", "birth PPxGL 40", "cause D 5",
        "causeNumber D 5", "die p 2", "marry pp 14", "spouse p 4", "deed pB 10", "tell pp 45", "move pLK 14",
        "isAlive p 3", "landOf p 3", "persons - 2", "length pw 8", "letter pwi 10", "changes p 6", "wasCalled pDi 10",
        "isSealed p 4", "bearers G 8", "fashion tt 6", "addRule Kllll 14", "dropRules K 2", "setLimit KM 5",
        "petition pGg 12", "oppose qp 30", "decide q 14", "record pKb 34", "records - 2", "slip czil 16",
        "writtenLength cz 5", "written czi 8", "key czi 12", "isClosed c 5", "sorted c 10", "setPrice m 6",
        "price cc 10", "distance ccz 10", "isLinked cc 12", "cluster c 8", "clusters - 4", "clusterAnew c 8",
        "doubts - 4", "wrong - 4", "missed - 4", "print - 4", "closedShare - 4", "meanPrice - 4", "isSound - 6",
    };

    /** Each run draws the calls of one of these more often, so that limits and deep states are met. */
    private static final String[] THEMES = {
        "", "petition oppose decide birth", "record slip sorted cluster clusters doubts", "addRule move record marry",
        "deed tell birth marry", "birth forbid ban cause fashion bearers", "petition decide record move isLinked missed",
    };

    private final Random random;
    private final Map<String, Integer> answered = new HashMap<>();

    private ModelTest(long seed) {
        random = new Random(seed);
    }

    public static void main(String[] args) throws Exception {
        Map<String, Integer> outcomes = new HashMap<>();
        for (int run = 0; run < RUNS; run++) {
            ModelTest test = new ModelTest(SEED + run);
            if (!test.runOnce(run)) {
                break;
            }
            test.answered.forEach((outcome, times) -> outcomes.merge(outcome, times, Integer::sum));
        }
        checkEveryOutcomeWasSeen(outcomes);
        Check.finish();
    }

    private boolean runOnce(int run) throws Exception {
        Namebearers built = new Namebearers();
        PlainRegister plain = new PlainRegister();
        List<String> urn = new ArrayList<>();
        List<String> theme = List.of(THEMES[run % THEMES.length].split(" "));
        for (String call : CALLS_TO_DRAW) {
            String[] parts = call.split(" ");
            int times = Integer.parseInt(parts[2]) * (theme.contains(parts[0]) ? 6 : 1);
            urn.addAll(Collections.nCopies(times, call));
        }
        for (int i = 0; i < CALLS; i++) {
            // Some persons come first, so that the calls about them find some.
            String[] parts = (i < 8 ? "birth PPxGL 0" : urn.get(random.nextInt(urn.size()))).split(" ");
            Object[] arguments = drawAll(parts[1]);
            Method method = methodNamed(parts[0]);
            Method model = PlainRegister.class.getDeclaredMethod(parts[0], method.getParameterTypes());
            model.setAccessible(true);
            String got = answerOf(method, built, arguments, true);
            String want = answerOf(model, plain, arguments, false);
            answered.merge(parts[0] + " " + (want.startsWith("throws") ? want : "answers"), 1, Integer::sum);
            if (!got.equals(want)) {
                Check.due("run " + run + ", call " + i + ", " + parts[0] + Arrays.toString(arguments), got, want);
                return false;
            }
        }
        Check.isTrue("isSound at the end of run " + run, built.isSound());
        return true;
    }

    private static Method methodNamed(String name) {
        for (Method method : Namebearers.class.getMethods()) {
            if (method.getName().equals(name)) {
                return method;
            }
        }
        throw new IllegalStateException(name);
    }

    private static String answerOf(Method method, Object object, Object[] arguments, boolean mustBeOurs)
            throws Exception {
        try {
            return String.valueOf(method.invoke(object, arguments));
        } catch (InvocationTargetException e) {
            Throwable cause = e.getCause();
            String ending = mustBeOurs && !Check.isOurs(cause) ? " of the machine" : "";
            return "throws " + cause.getClass().getName() + ending;
        }
    }

    private Object[] drawAll(String kinds) {
        if (kinds.equals("-")) {
            return new Object[0];
        }
        Object[] arguments = new Object[kinds.length()];
        for (int i = 0; i < arguments.length; i++) {
            arguments[i] = draw(kinds.charAt(i));
        }
        if (kinds.equals("tt") && random.nextInt(6) != 0 && (int) arguments[0] > (int) arguments[1]) {
            return new Object[] {arguments[1], arguments[0]};
        }
        return arguments;
    }

    private Object draw(char kind) {
        boolean isWild = random.nextInt(60) == 0;
        switch (kind) {
            case 'd': return isWild ? wild() : oneOf(1, 2, 7, 10, 15, 29, 30, 31, 1 + random.nextInt(999));
            case 's': return isWild ? wildSign() : "pmicd".charAt(random.nextInt(5));
            case 'r': return isWild ? wildSign() : "kmth".charAt(random.nextInt(4));
            case 'x': return isWild ? wildSign() : "mf".charAt(random.nextInt(2));
            case 'g': return isWild ? wildSign() : "mus".charAt(random.nextInt(3));
            case 'w': return isWild ? wildSign() : "gsbfo".charAt(random.nextInt(5));
            case 'l': return isWild ? wildSign() : random.nextInt(3) == 0 ? ' ' : "annejorlkisdbgt".charAt(random.nextInt(15));
            case 'L': case 'K': case 'b': case 'B': return isWild ? wild() : random.nextInt(4);
            case 'G': return isWild ? wild() : random.nextInt(random.nextBoolean() ? 16 : 4);
            case 'P': return isWild ? wild() : random.nextInt(3) == 0 ? -1 : random.nextInt(12);
            case 'p': return isWild ? wild() : random.nextInt(random.nextInt(3) == 0 ? 40 : 8);
            case 'q': return isWild ? wild() : random.nextInt(20);
            case 'c': return isWild ? wild() : random.nextInt(random.nextBoolean() ? 40 : 12);
            case 'D': return isWild ? wild() : random.nextInt(3);
            case 'i': return isWild ? wild() : random.nextInt(random.nextBoolean() ? 5 : 30);
            case 'M': return isWild ? wild() : oneOf(1, 2, 3, 6, 12, 23, 24, 24);
            case 'm': return isWild ? wild() : oneOf(0, 4, 12, 20, 40, 80, 99);
            case 't': return isWild ? wild() : random.nextInt(2000);
            default: return random.nextBoolean();
        }
    }

    private Integer oneOf(int... values) {
        return values[random.nextInt(values.length)];
    }

    private Integer wild() {
        return oneOf(-1, -2, 4, 5, 16, 20, 25, 40, 41, 64, 100, 1000, Integer.MAX_VALUE, Integer.MIN_VALUE, 0);
    }

    private Character wildSign() {
        return (char) (int) oneOf('a' - 1, 'z' + 1, 'A', '-', ' ', 0, 255, 65535, 'M', 'q');
    }

    /** A run of drawn calls proves little of an outcome that it never met. */
    private static void checkEveryOutcomeWasSeen(Map<String, Integer> outcomes) {
        for (Method method : Namebearers.class.getDeclaredMethods()) {
            if (java.lang.reflect.Modifier.isPublic(method.getModifiers())) {
                Check.isTrue(method.getName() + " was answered", outcomes.containsKey(method.getName() + " answers"));
                for (Class<?> exception : method.getExceptionTypes()) {
                    String outcome = method.getName() + " throws " + exception.getName();
                    Check.isTrue("seen: " + outcome, outcomes.containsKey(outcome));
                }
            }
        }
    }
}
