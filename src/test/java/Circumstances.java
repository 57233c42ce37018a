import java.util.ArrayList;
import java.util.HashMap;
import java.util.List;
import java.util.Map;
import java.util.Set;
import java.util.TreeMap;
import java.util.TreeSet;

/** What is so of the persons, records and petitions that drawn calls are about: each call must have met all of it. */
final class Circumstances {
    private static final int TIMES = 5;
    /** Kinds of arguments (see Draw) that make another call of it, as length() of a given name and of a second one. */
    private static final String KINDS_OF_CALLS = "wzgx";

    private final Map<String, Set<String>> all = new HashMap<>();
    private final Map<String, Map<String, Integer>> met = new TreeMap<>();
    private final Map<String, String> kindsOfCalls = new HashMap<>();
    private List<String> found = new ArrayList<>();
    private PlainRegister plain;

    /** To be told ahead of the call. */
    void note(PlainRegister register, String name, String kinds, Object[] arguments) {
        plain = register;
        found = new ArrayList<>();
        StringBuilder call = new StringBuilder(name);
        StringBuilder about = new StringBuilder();
        for (int i = 0; i < arguments.length; i++) {
            addOne(kinds.charAt(i), arguments[i]);
            if (KINDS_OF_CALLS.indexOf(kinds.charAt(i)) >= 0) {
                call.append(' ').append(arguments[i]);
            }
            if ("pPcq".indexOf(kinds.charAt(i)) >= 0) {
                about.append(kinds.charAt(i));
            }
        }
        if (about.length() == 0 || !call.toString().matches("\\w+( ([gsbfomu]|true|false))*")) {
            return;
        }
        if (about.length() == 2 && about.charAt(0) == about.charAt(1)) {
            addTwo(about.charAt(0), (int) arguments[0], (int) arguments[1]);
        }
        kindsOfCalls.put(call.toString(), about.toString());
        all.computeIfAbsent(about.toString(), key -> new TreeSet<>()).addAll(found);
        Map<String, Integer> counts = met.computeIfAbsent(call.toString(), key -> new HashMap<>());
        for (String circumstance : found) {
            counts.merge(circumstance, 1, Integer::sum);
        }
    }

    void checkAllWereMet() {
        for (String call : met.keySet()) {
            for (String circumstance : all.get(kindsOfCalls.get(call))) {
                int times = met.get(call).getOrDefault(circumstance, 0);
                Check.isTrue(call + " was told " + times + " times of one " + circumstance, times >= TIMES);
            }
        }
    }

    private void note(String what, boolean isSo) {
        if (isSo) {
            found.add(what);
        }
    }

    private void addOne(char kind, Object argument) {
        if ((kind == 'p' || kind == 'P') && isWithin((int) argument, plain.all.size())) {
            addPerson(plain.all.get((int) argument));
            note("the last of 40", (int) argument == 39);
        } else if (kind == 'c' && isWithin((int) argument, plain.lines.size())) {
            addRecord(plain.lines.get((int) argument));
            note("the last of 40", (int) argument == 39);
        } else if (kind == 'q' && isWithin((int) argument, plain.asked.size())) {
            addPetition(plain.asked.get((int) argument));
            note("the last of 20", (int) argument == 19);
        }
    }

    private static boolean isWithin(int number, int size) {
        return 0 <= number && number < size;
    }

    private void addPerson(PlainRegister.Somebody one) {
        boolean isSticking = one.tellers.size() >= 3;
        note("dead", !one.alive);
        note("alive", one.alive);
        note("sealed", one.sealed);
        note("married", one.spouse != -1);
        note("told of", one.byName != -1 && !isSticking);
        note("with a by-name that sticks", isSticking);
        note("dead, with a by-name that sticks", !one.alive && isSticking);
        note("without a given name", one.given.isEmpty());
        note("without a second name", one.second.isEmpty());
        note("without a second name, with a by-name", one.second.isEmpty() && isSticking);
        note("with a dash", one.second.indexOf('-') >= 0);
        note("with changes", !one.before.isEmpty());
        note("sealed, with changes", one.sealed && !one.before.isEmpty());
        note("dead, with changes", !one.alive && !one.before.isEmpty());
        note("without parents", one.mother == -1 && one.father == -1);
        note("with a mother alone", one.mother != -1 && one.father == -1);
        note("with a father alone", one.mother == -1 && one.father != -1);
        note("with both parents", one.mother != -1 && one.father != -1);
        note("of the generation 4 or more", one.generation >= 4);
    }

    private void addRecord(PlainRegister.Line line) {
        PlainRegister.Somebody one = plain.all.get(line.person);
        note("closed", one.sealed);
        note("open", !one.sealed);
        note("of somebody dead", !one.alive);
        note("of no given name", line.given.isEmpty());
        note("of no second name", line.second.isEmpty());
        note("with a dash", line.second.indexOf('-') >= 0);
        note("of 24 signs", Math.max(line.given.length(), line.second.length()) == 24);
        note("of a name that is another one by now", !line.given.equals(one.given) && !one.before.isEmpty());
    }

    private void addPetition(PlainRegister.Asked it) {
        PlainRegister.Somebody one = plain.all.get(it.person);
        note("for safety", it.ground == 's');
        note("by mistake", it.ground == 'm');
        note("by use", it.ground == 'u');
        note("opposed", !it.against.isEmpty());
        note("decided", it.decided);
        note("of somebody dead", !one.alive);
        note("of somebody sealed", one.sealed);
        note("of a banned name", plain.banned[one.land][it.given]);
        note("of 29 days", plain.today - it.day == 29);
        note("of 30 days", plain.today - it.day == 30);
    }

    private void addTwo(char kind, int one, int other) {
        note("both the same", one == other && one != -1);
        if (kind == 'c' && isWithin(one, plain.lines.size()) && isWithin(other, plain.lines.size())) {
            addTwoRecords(plain.lines.get(one), plain.lines.get(other));
            int price = plain.price(one, other);
            note("of 50 or more", price >= 50);
            note("of 99 or more", price >= 99);
            note("of just the limit", price == plain.limit);
            note("linked by a third one alone", isLinkedByThird(one, other));
        }
    }

    private boolean isLinkedByThird(int one, int other) {
        boolean isSo = false;
        for (int third = 0; third < plain.lines.size() && one != other; third++) {
            isSo |= plain.isLinked(one, third) && plain.isLinked(third, other);
        }
        return isSo && !plain.isLinked(one, other);
    }

    private void addTwoRecords(PlainRegister.Line one, PlainRegister.Line other) {
        note("of one person", one.person == other.person && one != other);
        note("of unlike sexes", one.sex != other.sex);
        note("of one book", one.book == other.book && one.day != other.day);
        note("of one day", one.book != other.book && one.day == other.day);
        note("of one book and day", one.book == other.book && one.day == other.day && one != other);
        note("of days far apart", Math.abs(one.day - other.day) >= 210);
        note("ten days apart", Math.abs(one.day - other.day) == 10);
        boolean isOneClosed = plain.all.get(one.person).sealed;
        boolean isOtherClosed = plain.all.get(other.person).sealed;
        note("one closed", isOneClosed != isOtherClosed);
        note("both closed", isOneClosed && isOtherClosed);
    }
}
