import java.lang.reflect.InvocationTargetException;
import java.lang.reflect.Method;
import java.lang.reflect.Modifier;
import java.util.ArrayList;
import java.util.Arrays;
import java.util.Collections;
import java.util.HashMap;
import java.util.List;
import java.util.Map;
import java.util.Random;

/** Long runs of drawn calls, right and wrong ones, answered by the class and by PlainRegister alike. */
public final class ModelTest {
    private static final int RUNS = 1800;
    /** The last one of 512 calls is isSound(). */
    private static final int CALLS = 511;
    private static final int FIRST_BIRTHS = 8;
    /**
     * Rules that runs begin with, five signs each, the clerk and the letters: none, those that leave nothing of an anna
     * or make her longer, and those that make her longer alone. Most given names are hers then.
     */
    private static final String[] OPENINGS = {"", "0a   0n   1a aa1n nn", "0a aa0n nn1a aa1n nn2a aa2n nn"};
    private static final int SIGNS_OF_RULE = 5;
    private static final long SEED = 20261119L;

    /** Each call: its name, a letter for each argument (see Draw), and how often it is drawn. */
    private static final String[] CALLS_TO_DRAW = {
        "days d 10", "setSystem Ls 4", "setMarriage Lr 5", "ban LGz 5", "forbid Lz 4", "birth PPxGL 40", "cause D 5",
        "causeNumber D 5", "die p 3", "marry pp 14", "spouse p 4", "deed pB 10", "tell pp 45", "move pLK 14",
        "isAlive p 5", "landOf p 5", "persons - 2", "length pw 8", "letter pwi 10", "changes p 6", "wasCalled pDi 10",
        "isSealed p 4", "bearers G 8", "fashion tt 6", "addRule Kllll 14", "dropRules K 2", "setLimit KM 5",
        "petition pGg 12", "oppose qp 30", "decide q 14", "record pKb 34", "records - 2", "slip czil 16",
        "writtenLength cz 5", "written czi 8", "key czi 12", "isClosed c 5", "sorted c 10", "setPrice m 6",
        "price cc 10", "distance ccz 10", "isLinked cc 12", "cluster c 8", "clusters - 4", "clusterAnew c 8",
        "doubts - 4", "wrong - 4", "missed - 4", "print - 4", "closedShare - 4", "meanPrice - 4", "isSound - 6",
    };

    /** Each run draws the calls of one of these more often, so that limits and deep states are met. */
    private static final String[] THEMES = {
        "", "petition oppose decide birth", "record slip sorted cluster clusters doubts", "addRule move record marry",
        "deed tell birth marry die", "birth forbid ban cause fashion bearers", "petition decide record move isLinked missed",
        "deed tell die length letter changes wasCalled spouse", "record price isLinked distance setPrice doubts",
        "petition decide record key written writtenLength slip isClosed", "days petition oppose ban decide",
        "marry die move birth", "tell die marry length letter wasCalled",
    };

    private final Namebearers built = new Namebearers();
    private final PlainRegister plain = new PlainRegister();
    private final int run;
    private final Random random;
    private final String opening;
    private final Draw draw;
    private final Map<String, Integer> outcomes;
    private final Circumstances circumstances;

    private ModelTest(int run, Map<String, Integer> outcomes, Circumstances circumstances) {
        this.run = run;
        this.outcomes = outcomes;
        this.circumstances = circumstances;
        random = new Random(SEED + run);
        opening = OPENINGS[run % OPENINGS.length];
        draw = new Draw(random, plain, opening.isEmpty() ? 4 : 1);
    }

    public static void main(String[] args) throws Exception {
        Map<String, Integer> outcomes = new HashMap<>();
        Circumstances circumstances = new Circumstances();
        boolean isAlike = true;
        for (int run = 0; run < RUNS && isAlike; run++) {
            isAlike = new ModelTest(run, outcomes, circumstances).runOnce();
        }
        if (isAlike) {
            checkEveryOutcomeWasSeen(outcomes);
            circumstances.checkAllWereMet();
        }
        Check.finish();
    }

    private boolean runOnce() throws Exception {
        List<String> urn = urnOf(List.of(THEMES[run % THEMES.length].split(" ")));
        int rules = opening.length() / SIGNS_OF_RULE;
        for (int i = 0; i < CALLS; i++) {
            // Some persons come first, so that the calls about them find some.
            boolean isFirstBirth = i >= rules && i < rules + FIRST_BIRTHS;
            String[] parts = (isFirstBirth ? "birth PPxGL 0" : urn.get(random.nextInt(urn.size()))).split(" ");
            boolean isAlike = i < rules ? areAnswersAlike(i, "addRule", "Kllll", ruleOfOpening(i))
                    : areAnswersAlike(i, parts[0], parts[1], draw.all(parts[1]));
            if (!isAlike) {
                return false;
            }
        }
        Check.isTrue("isSound at the end of run " + run, built.isSound());
        return true;
    }

    private Object[] ruleOfOpening(int number) {
        String rule = opening.substring(number * SIGNS_OF_RULE);
        return new Object[] {rule.charAt(0) - '0', rule.charAt(1), rule.charAt(2), rule.charAt(3), rule.charAt(4)};
    }

    private static List<String> urnOf(List<String> theme) {
        List<String> urn = new ArrayList<>();
        for (String call : CALLS_TO_DRAW) {
            String[] parts = call.split(" ");
            int times = Integer.parseInt(parts[2]) * (theme.contains(parts[0]) ? 6 : 1);
            urn.addAll(Collections.nCopies(times, call));
        }
        return urn;
    }

    private boolean areAnswersAlike(int number, String name, String kinds, Object[] arguments) throws Exception {
        circumstances.note(plain, name, kinds, arguments);
        Method method = methodNamed(name);
        Method model = PlainRegister.class.getDeclaredMethod(name, method.getParameterTypes());
        model.setAccessible(true);
        String got = answerOf(method, built, arguments, true);
        String want = answerOf(model, plain, arguments, false);
        outcomes.merge(name + " " + (want.startsWith("throws") ? want : "answers"), 1, Integer::sum);
        if (!got.equals(want)) {
            Check.due("run " + run + ", call " + number + ", " + name + Arrays.toString(arguments), got, want);
        }
        return got.equals(want);
    }

    private static Method methodNamed(String name) {
        for (Method method : Namebearers.class.getMethods()) {
            if (method.getName().equals(name)) {
                return method;
            }
        }
        throw new IllegalStateException(name);
    }

    private static String answerOf(Method method, Object object, Object[] arguments, boolean mustBeOurs)
            throws Exception {
        try {
            return String.valueOf(method.invoke(object, arguments));
        } catch (InvocationTargetException e) {
            Throwable cause = e.getCause();
            String ending = mustBeOurs && !Check.isOurs(cause) ? " of the machine" : "";
            return "throws " + cause.getClass().getName() + ending;
        }
    }

    /** A run of drawn calls proves little of an outcome that it never met. */
    private static void checkEveryOutcomeWasSeen(Map<String, Integer> outcomes) {
        for (Method method : Namebearers.class.getDeclaredMethods()) {
            if (Modifier.isPublic(method.getModifiers())) {
                Check.isTrue(method.getName() + " was answered", outcomes.containsKey(method.getName() + " answers"));
                for (Class<?> exception : method.getExceptionTypes()) {
                    String outcome = method.getName() + " throws " + exception.getName();
                    Check.isTrue("seen: " + outcome, outcomes.containsKey(outcome));
                }
            }
        }
    }
}
