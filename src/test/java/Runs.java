import java.util.ArrayList;
import java.util.LinkedHashSet;
import java.util.List;
import java.util.Set;
import java.util.TreeSet;

/** Tests of single sentences of the document: runs of calls with the answers that are due, ranges, and signs. */
final class Runs {
    private static final Set<String> ACTS = Set.of("days", "setSystem", "setMarriage", "ban", "forbid", "birth", "die",
            "marry", "deed", "tell", "move", "addRule", "dropRules", "setLimit", "petition", "oppose", "decide", "record",
            "slip", "setPrice");
    private static final int SIGNS = 65536;

    static final String ARGUMENT = "IllegalArgumentException";
    static final String BOUNDS = "IndexOutOfBoundsException";
    static final String ELEMENT = "NoSuchElementException";

    /** Registers of one person, of three and of forty, without laws or marriages. */
    static final String ONE = "birth(-1, -1, 'f', 0, 0)\n";
    static final String THREE = "birth(-1, -1, 'f', 0, 0)\nbirth(-1, -1, 'm', 1, 0)\nbirth(0, 1, 'm', 3, 0)\n";
    static final String FORTY = "40 x birth(-1, -1, 'f', 4, 0)\n";

    private Runs() {
    }

    /**
     * A run on a new object, a call a line: a call with -> and the answer that is due, a call alone, which must not be
     * refused, or "40 x" and a call, with % for 0 to 39. Each refused call must change nothing.
     */
    static void due(int promise, String sentence, String lines) {
        Sentences.quote(promise, sentence);
        Calls calls = new Calls(List.of());
        List<String> script = new ArrayList<>();
        for (String line : linesOf(lines)) {
            String call = callOf(line);
            String got = calls.answer(call);
            if (line.length() > call.length()) {
                Check.due(call + " behind " + endOf(script), got, line.substring(call.length() + 4));
            } else {
                Check.isFalse(call + " behind " + endOf(script) + ": " + got, got.startsWith("throws."));
            }
            boolean isRefusedBirth = call.startsWith("birth(") && got.equals("throws.UnsupportedOperationException");
            if (got.startsWith("throws.")) {
                Unchanged.by(call, isRefusedBirth, script);
            }
            if (isRefusedBirth || (!got.startsWith("throws.") && isAct(call))) {
                script.add(call);
            }
        }
    }

    private static String endOf(List<String> script) {
        return ".. " + script.subList(Math.max(script.size() - 8, 0), script.size());
    }

    /** The calls of lines without the answers that are due. */
    private static List<String> callsOf(String lines) {
        List<String> calls = new ArrayList<>();
        for (String line : linesOf(lines)) {
            calls.add(callOf(line));
        }
        return calls;
    }

    private static String callOf(String line) {
        int arrow = line.indexOf(" -> ");
        return arrow < 0 ? line : line.substring(0, arrow);
    }

    private static boolean isAct(String call) {
        return ACTS.contains(call.substring(0, call.indexOf('(')));
    }

    private static List<String> linesOf(String lines) {
        List<String> all = new ArrayList<>();
        for (String whole : lines.split("\n")) {
            String line = whole.replaceAll("//.*", "").strip();
            if (line.matches("\\d+ x .*")) {
                int times = Integer.parseInt(line.substring(0, line.indexOf(' ')));
                for (int i = 0; i < times; i++) {
                    all.add(line.substring(line.indexOf('x') + 2).replace("%", "" + i));
                }
            } else if (!line.isEmpty()) {
                all.add(line);
            }
        }
        return all;
    }

    /** The numbers at both ends of a range are answered, those outside of it, near and far, are refused. */
    static void range(int promise, String sentence, String setup, String call, int low, int high, String exception) {
        due(promise, sentence, setup);
        List<String> script = callsOf(setup);
        for (int inside : low <= high ? new TreeSet<>(List.of(low, high)) : new TreeSet<Integer>()) {
            String told = call.replace("%", "" + inside);
            String got = new Calls(script).answer(told);
            Check.isFalse(told + " is inside, but " + got, got.startsWith("throws."));
        }
        for (int outside : outsideOf(low, high)) {
            String told = call.replace("%", "" + outside);
            Check.due(told, new Calls(script).answer(told), "throws." + exception);
            Unchanged.by(told, false, script);
        }
    }

    /** The number of a person is one of those that are there: of none, of one, of three, of forty. */
    static void persons(int promise, String sentence, String acts, String call) {
        range(promise, sentence, "", call, 0, -1, BOUNDS);
        range(promise, sentence, ONE + acts, call, 0, 0, BOUNDS);
        range(promise, sentence, THREE + acts, call, 0, 2, BOUNDS);
        range(promise, sentence, FORTY + acts, call, 0, 39, BOUNDS);
    }

    /** The number of a record is one of those that are there: of none, of one, of three, of forty. */
    static void records(int promise, String sentence, String call) {
        range(promise, sentence, "", call, 0, -1, BOUNDS);
        range(promise, sentence, ONE, call, 0, -1, BOUNDS);
        range(promise, sentence, ONE + "record(0, 0, 0)\n", call, 0, 0, BOUNDS);
        range(promise, sentence, FORTY + "3 x record(%, 0, 0)\n", call, 0, 2, BOUNDS);
        range(promise, sentence, THREE + "40 x record(1, 0, 0)\n", call, 0, 39, BOUNDS);
    }

    /** Next to the range, the ends of int, and what would be inside if higher bits were lost. */
    private static Set<Integer> outsideOf(int low, int high) {
        Set<Integer> outside = new LinkedHashSet<>(List.of(low - 1, high + 1, -1, -2, Integer.MIN_VALUE,
                Integer.MAX_VALUE, low + 32, low + 64, low + 256, low + 65536, low + Integer.MIN_VALUE,
                high + Integer.MIN_VALUE, -high, 1000000));
        outside.removeIf(number -> low <= number && number <= high);
        return outside;
    }

    /** Of all signs just these are right; all others are refused. */
    static void signs(int promise, String sentence, String setup, String call, String right, String exception) {
        due(promise, sentence, setup);
        List<String> script = callsOf(setup);
        Calls calls = new Calls(script);
        for (int sign = 0; sign < SIGNS; sign++) {
            String told = call.replace("%", "#" + sign);
            boolean isRight = right.indexOf(sign) >= 0;
            if (isRight || calls.made() >= Calls.MOST) {
                calls = new Calls(script);
            }
            String got = calls.answer(told);
            if (isRight ? got.startsWith("throws.") : !got.equals("throws." + exception)) {
                Check.fail(told + " answered " + got + ", due is " + (isRight ? "no refusal" : exception));
            }
            if (isRight) {
                calls = new Calls(script);
            }
        }
        for (int sign : nextTo(right)) {
            Unchanged.by(call.replace("%", "#" + sign), false, script);
        }
    }

    private static Set<Integer> nextTo(String right) {
        Set<Integer> signs = new LinkedHashSet<>(List.of(0, (int) 'A', (int) '-', (int) '0', 255, SIGNS - 1));
        for (char sign : right.toCharArray()) {
            signs.addAll(List.of(sign - 1, sign + 1, sign + 256, sign - 32));
        }
        signs.removeIf(sign -> sign < 0 || right.indexOf(sign) >= 0);
        return signs;
    }
}
