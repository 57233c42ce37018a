import java.util.ArrayList;
import java.util.HashMap;
import java.util.List;
import java.util.Map;

/** A refused call changes nothing: all that may be asked or done then is answered as without it. */
final class Unchanged {
    private static final Map<String, List<String>> KNOWN = new HashMap<>();

    private Unchanged() {
    }

    /** The causes alone may change, and only by a birth that is refused. */
    static void by(String refused, boolean isRefusedBirth, List<String> script) {
        List<String> probes = probesOf(script);
        List<String> without = KNOWN.computeIfAbsent(String.join(";", script), key -> ask(script, null, probes));
        List<String> with = ask(script, refused, probes);
        for (int i = 0; i < probes.size(); i++) {
            boolean mayChange = isRefusedBirth && probes.get(i).startsWith("cause");
            if (!mayChange && !with.get(i).equals(without.get(i))) {
                Check.fail("behind " + refused + " " + probes.get(i) + " answered " + with.get(i) + ", without it "
                        + without.get(i));
                return;
            }
        }
        Check.isTrue(refused + " changes nothing", true);
    }

    private static List<String> ask(List<String> script, String refused, List<String> probes) {
        List<String> answers = new ArrayList<>();
        int room = Calls.MOST - script.size() - 1;
        for (int from = 0; from < probes.size(); from += room) {
            Calls calls = new Calls(script);
            if (refused != null) {
                calls.answer(refused);
            }
            for (int i = from; i < Math.min(from + room, probes.size()); i++) {
                answers.add(calls.answer(probes.get(i)));
            }
        }
        return answers;
    }

    private static List<String> probesOf(List<String> script) {
        List<String> probes = new ArrayList<>(List.of("cause(0)", "causeNumber(0)", "cause(1)", "causeNumber(1)",
                "cause(2)", "persons()", "records()", "print()", "clusters()", "doubts()", "wrong()", "missed()",
                "closedShare()", "meanPrice()", "isSound()", "fashion(0, MAX)"));
        int persons = new Calls(script).number("persons()");
        for (int person = 0; person < persons; person++) {
            tell(probes, person, "isAlive(%)", "landOf(%)", "isSealed(%)", "changes(%)", "spouse(%)", "length(%, 'g')",
                    "length(%, 's')", "length(%, 'b')", "length(%, 'o')", "wasCalled(%, 0, 0)", "wasCalled(%, 1, 0)");
        }
        int records = new Calls(script).number("records()");
        Calls lengths = new Calls(script);
        for (int record = 0; record < records; record++) {
            tell(probes, record, "isClosed(%)", "sorted(%)", "cluster(%)", "clusterAnew(%)", "key(%, false, 1)",
                    "key(%, true, 1)", "price(%, 0)", "isLinked(0, %)");
            for (boolean isSecond : new boolean[] {false, true}) {
                int signs = lengths.number("writtenLength(" + record + ", " + isSecond + ")");
                for (int i = 0; i <= signs; i++) {
                    probes.add("written(" + record + ", " + isSecond + ", " + i + ")");
                }
            }
        }
        addActs(probes, persons);
        return probes;
    }

    /** What no question tells shows in what acts answer: the day, systems, laws, rules, limits, tellers, petitions. */
    private static void addActs(List<String> probes, int persons) {
        for (int petition = 0; petition < 20; petition++) {
            for (int person = 0; person < Math.min(persons, 6); person++) {
                probes.add("oppose(" + petition + ", " + person + ")");
            }
            tell(probes, petition, "decide(%)");
        }
        for (int clerk = 0; clerk < 4; clerk++) {
            tell(probes, clerk, "record(%, %, 3)", "move(%, 3, %)", "move(%, 0, %)", "print()",
                    "addRule(%, 'q', 'q', ' ', ' ')", "dropRules(%)", "setLimit(%, 24)");
        }
        for (int given = 0; given < 16; given++) {
            tell(probes, given, "bearers(%)", "ban(0, %, true)", "ban(1, %, true)", "ban(2, %, true)", "ban(3, %, true)");
        }
        for (int land = 0; land < 4; land++) {
            tell(probes, land, "setSystem(%, 'd')", "setMarriage(%, 'k')", "forbid(%, true)");
        }
        for (int person = 0; person < persons; person++) {
            tell(probes, person, "tell(0, %)", "tell(1, %)", "deed(%, 0)");
        }
        probes.addAll(List.of("petition(0, 0, 'm')", "petition(1, 0, 'm')", "days(1)", "setPrice(12)"));
        probes.addAll(List.of("birth(-1, -1, 'm', 9, 0)", "marry(0, 1)", "print()"));
    }

    private static void tell(List<String> probes, int number, String... calls) {
        for (String call : calls) {
            probes.add(call.replace("%", "" + number));
        }
    }
}
