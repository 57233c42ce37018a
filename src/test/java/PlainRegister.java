import java.util.ArrayList;
import java.util.Comparator;
import java.util.List;
import java.util.NoSuchElementException;
import java.util.TreeSet;

/** The document once more, in the plainest Java, without care for speed or room: what ModelTest compares with. */
final class PlainRegister {
    static final List<String> GIVEN = List.of("anna", "bjorn", "carla", "david", "erik", "freya", "gunnar",
            "hanna", "ivar", "jon", "karin", "lars", "maria", "nils", "olga", "pal");
    private static final List<String> HOUSES = List.of("berg", "lund", "holm", "strand", "dahl", "moe", "vik", "haug");
    private static final List<String> BY_NAMES = List.of("red", "tall", "wise", "lame");
    private static final List<String> DAYS = List.of("sun", "moon", "tyr", "odin", "thor", "frig", "bath");
    private static final List<String> GENERATIONS = List.of("an", "be", "co", "du");

    static final class Somebody {
        int mother;
        int father;
        char sex;
        int born;
        int told;
        int house;
        int generation;
        int land;
        String given;
        String second;
        boolean alive = true;
        boolean sealed;
        int spouse = -1;
        int byName = -1;
        TreeSet<Integer> tellers = new TreeSet<>();
        List<String> before = new ArrayList<>();
    }

    static final class Asked {
        int person;
        int given;
        char ground;
        int day;
        boolean decided;
        TreeSet<Integer> against = new TreeSet<>();
    }

    static final class Line {
        int person;
        int book;
        int day;
        char sex;
        String given;
        String second;
    }

    final char[] systems = "picm".toCharArray();
    private final char[] marriages = "kmth".toCharArray();
    final boolean[][] banned = new boolean[4][16];
    final boolean[] forbidden = new boolean[4];
    private final List<List<String[]>> rules =
            List.of(new ArrayList<>(), new ArrayList<>(), new ArrayList<>(), new ArrayList<>());
    private final int[] limits = {24, 24, 24, 24};
    final List<Somebody> all = new ArrayList<>();
    final List<Asked> asked = new ArrayList<>();
    final List<Line> lines = new ArrayList<>();
    private final List<Character> causes = new ArrayList<>();
    private final List<Integer> causeNumbers = new ArrayList<>();
    int today = 0;
    int limit = 12;

    private static void argument(boolean isRight) {
        if (!isRight) {
            throw new IllegalArgumentException();
        }
    }

    private static void bounds(boolean isRight) {
        if (!isRight) {
            throw new IndexOutOfBoundsException();
        }
    }

    private static void support(boolean isRight) {
        if (!isRight) {
            throw new UnsupportedOperationException();
        }
    }

    private static void state(boolean isRight) {
        if (!isRight) {
            throw new IllegalStateException();
        }
    }

    private static void element(boolean isRight) {
        if (!isRight) {
            throw new NoSuchElementException();
        }
    }

    private static boolean within(int value, int low, int high) {
        return low <= value && value <= high;
    }

    private static String cut(String text, int most) {
        return text.length() <= most ? text : text.substring(0, most);
    }

    private Somebody person(int number) {
        bounds(within(number, 0, all.size() - 1));
        return all.get(number);
    }

    private Line line(int number) {
        bounds(within(number, 0, lines.size() - 1));
        return lines.get(number);
    }

    public int days(int days) {
        argument(within(days, 1, 999));
        return today += days;
    }

    public char setSystem(int land, char system) {
        argument(within(land, 0, 3) && "pmicd".contains("" + system));
        char old = systems[land];
        systems[land] = system;
        return old;
    }

    public char setMarriage(int land, char rule) {
        argument(within(land, 0, 3) && "kmth".contains("" + rule));
        char old = marriages[land];
        marriages[land] = rule;
        return old;
    }

    public boolean ban(int land, int given, boolean isBanned) {
        argument(within(land, 0, 3) && within(given, 0, 15));
        boolean old = banned[land][given];
        banned[land][given] = isBanned;
        return old;
    }

    public boolean forbid(int land, boolean isForbidden) {
        argument(within(land, 0, 3));
        boolean old = forbidden[land];
        forbidden[land] = isForbidden;
        return old;
    }

    public int birth(int mother, int father, char sex, int given, int land) {
        bounds(within(mother, -1, all.size() - 1) && within(father, -1, all.size() - 1));
        argument((sex == 'm' || sex == 'f') && within(given, 0, 15) && within(land, 0, 3));
        argument(mother == -1 || mother != father);
        state(all.size() < 40);
        refuse(banned[land][given], 'b', land, given);
        for (int i = 0; i < all.size(); i++) {
            Somebody other = all.get(i);
            boolean isSibling = (mother != -1 && other.mother == mother) || (father != -1 && other.father == father);
            refuse(forbidden[land] && isSibling && other.alive && other.given.equals(GIVEN.get(given)), 'l', i, given);
        }
        Somebody child = new Somebody();
        child.mother = mother;
        child.father = father;
        child.sex = sex;
        child.born = today;
        child.told = given;
        child.land = land;
        child.given = GIVEN.get(given);
        Somebody of = father != -1 ? all.get(father) : mother != -1 ? all.get(mother) : null;
        child.house = of == null ? all.size() % 8 : of.house;
        child.generation = of == null ? 0 : of.generation + 1;
        child.second = cut(formed(child, systems[land]), 40);
        all.add(child);
        return all.size() - 1;
    }

    private void refuse(boolean isSo, char letter, int number, int given) {
        if (isSo) {
            causes.clear();
            causeNumbers.clear();
            causes.addAll(List.of(letter, 'n'));
            causeNumbers.addAll(List.of(number, given));
            throw new UnsupportedOperationException();
        }
    }

    private String formed(Somebody child, char system) {
        Somebody mother = child.mother == -1 ? null : all.get(child.mother);
        Somebody father = child.father == -1 ? null : all.get(child.father);
        String ending = child.sex == 'm' ? "son" : "dot";
        String ofFather = father == null ? "" : father.given;
        String ofMother = mother == null ? "" : mother.given;
        switch (system) {
            case 'p': {
                String root = ofFather.isEmpty() ? ofMother : ofFather;
                return root.isEmpty() ? "" : root + ending;
            }
            case 'm': {
                String root = ofMother.isEmpty() ? ofFather : ofMother;
                return root.isEmpty() ? "" : root + ending;
            }
            case 'i':
                if (father != null && !father.second.isEmpty()) {
                    return father.second;
                }
                if (father != null && !byName(father).isEmpty()) {
                    return byName(father);
                }
                return mother == null ? "" : mother.second;
            case 'c':
                return HOUSES.get(child.house) + GENERATIONS.get(child.generation % 4);
            default:
                return DAYS.get(today % 7);
        }
    }

    private static String byName(Somebody one) {
        return one.tellers.size() >= 3 ? BY_NAMES.get(one.byName) : "";
    }

    public char cause(int depth) {
        element(within(depth, 0, causes.size() - 1));
        return causes.get(depth);
    }

    public int causeNumber(int depth) {
        element(within(depth, 0, causes.size() - 1));
        return causeNumbers.get(depth);
    }

    public boolean die(int person) {
        Somebody one = person(person);
        support(one.alive);
        one.alive = false;
        if (one.spouse == -1) {
            return false;
        }
        all.get(one.spouse).spouse = -1;
        one.spouse = -1;
        return true;
    }

    private static int becomes(Somebody one, String given, String second, boolean isSealed) {
        int count = (one.given.equals(given) ? 0 : 1) + (one.second.equals(second) ? 0 : 1);
        if (count > 0 && !isSealed) {
            one.before.add(one.given);
        }
        one.given = given;
        one.second = second;
        return count;
    }

    public int marry(int one, int other) {
        Somebody a = person(one);
        Somebody b = person(other);
        support(one != other && a.alive && b.alive && a.spouse == -1 && b.spouse == -1);
        a.spouse = other;
        b.spouse = one;
        String ofA = a.second;
        String ofB = b.second;
        switch (marriages[a.land]) {
            case 'm':
                return a.sex == b.sex ? 0 : a.sex == 'f' ? becomes(a, a.given, ofB, false) : becomes(b, b.given, ofA, false);
            case 't':
                return becomes(b, b.given, ofA, false);
            case 'h':
                return becomes(a, a.given, cut(ofA + "-" + ofB, 40), false)
                        + becomes(b, b.given, cut(ofB + "-" + ofA, 40), false);
            default:
                return 0;
        }
    }

    public int spouse(int person) {
        Somebody one = person(person);
        element(one.spouse != -1);
        return one.spouse;
    }

    public int deed(int person, int byName) {
        Somebody one = person(person);
        argument(within(byName, 0, 3));
        support(one.alive);
        state(one.tellers.size() < 3);
        int old = one.byName;
        one.byName = byName;
        one.tellers.clear();
        return old;
    }

    public int tell(int teller, int person) {
        Somebody who = person(teller);
        Somebody one = person(person);
        support(who.alive && one.alive && teller != person && one.byName != -1);
        one.tellers.add(teller);
        return one.tellers.size();
    }

    public int move(int person, int land, int clerk) {
        Somebody one = person(person);
        argument(within(land, 0, 3) && within(clerk, 0, 3) && one.land != land);
        support(one.alive);
        one.land = land;
        return becomes(one, heard(one.given, clerk), heard(one.second, clerk), false);
    }

    private String heard(String text, int clerk) {
        StringBuilder out = new StringBuilder();
        String rest = text;
        while (!rest.isEmpty()) {
            String[] used = {rest.substring(0, 1), rest.substring(0, 1)};
            for (String[] rule : rules.get(clerk)) {
                if (rest.startsWith(rule[0])) {
                    used = rule;
                    break;
                }
            }
            out.append(used[1]);
            rest = rest.substring(used[0].length());
        }
        return cut(out.toString(), limits[clerk]);
    }

    public boolean isAlive(int person) {
        return person(person).alive;
    }

    public int landOf(int person) {
        return person(person).land;
    }

    public int persons() {
        return all.size();
    }

    private static String named(Somebody one, char what) {
        switch (what) {
            case 'g':
                return one.given;
            case 's':
                return one.second;
            case 'b':
                return byName(one);
            case 'f': {
                List<String> parts = new ArrayList<>(List.of(one.given, byName(one), one.second));
                parts.removeIf(String::isEmpty);
                return String.join(" ", parts);
            }
            case 'o':
                return one.given.isEmpty() || one.given.matches(".*[sxz]") ? one.given : one.given + "s";
            default:
                throw new IllegalArgumentException();
        }
    }

    public int length(int person, char what) {
        return named(person(person), what).length();
    }

    public char letter(int person, char what, int index) {
        String text = named(person(person), what);
        element(within(index, 0, text.length() - 1));
        return text.charAt(index);
    }

    public int changes(int person) {
        return person(person).before.size();
    }

    public char wasCalled(int person, int index, int at) {
        Somebody one = person(person);
        element(within(index, 0, one.before.size() - 1));
        element(within(at, 0, one.before.get(index).length() - 1));
        return one.before.get(index).charAt(at);
    }

    public boolean isSealed(int person) {
        return person(person).sealed;
    }

    public int bearers(int given) {
        argument(within(given, 0, 15));
        int count = 0;
        for (Somebody one : all) {
            count += one.alive && one.given.equals(GIVEN.get(given)) ? 1 : 0;
        }
        element(count != 1 && count != 2);
        return count;
    }

    public int fashion(int from, int to) {
        argument(from <= to);
        int[] births = new int[16];
        for (Somebody one : all) {
            births[one.told] += within(one.born, from, to) ? 1 : 0;
        }
        int best = 15;
        for (int i = 15; i >= 0; i--) {
            best = births[i] >= births[best] ? i : best;
        }
        element(births[best] > 0);
        return best;
    }

    public int addRule(int clerk, char one, char two, char three, char four) {
        argument(within(clerk, 0, 3) && within(one, 'a', 'z'));
        for (char sign : new char[] {two, three, four}) {
            argument(sign == ' ' || within(sign, 'a', 'z'));
        }
        argument(three != ' ' || four == ' ');
        state(rules.get(clerk).size() < 8);
        rules.get(clerk).add(new String[] {("" + one + two).strip(), ("" + three + four).strip()});
        return rules.get(clerk).size();
    }

    public int dropRules(int clerk) {
        argument(within(clerk, 0, 3));
        int old = rules.get(clerk).size();
        rules.get(clerk).clear();
        return old;
    }

    public int setLimit(int clerk, int letters) {
        argument(within(clerk, 0, 3) && within(letters, 1, 24));
        int old = limits[clerk];
        limits[clerk] = letters;
        return old;
    }

    public int petition(int person, int given, char ground) {
        Somebody one = person(person);
        argument(within(given, 0, 15) && "mus".contains("" + ground));
        support(one.alive);
        state(asked.size() < 20);
        Asked it = new Asked();
        it.person = person;
        it.given = given;
        it.ground = ground;
        it.day = today;
        asked.add(it);
        return asked.size() - 1;
    }

    public int oppose(int petition, int by) {
        bounds(within(petition, 0, asked.size() - 1) && within(by, 0, all.size() - 1));
        Asked it = asked.get(petition);
        Somebody one = all.get(by);
        support(!it.decided && it.ground != 's' && one.alive && by != it.person);
        support(one.land == all.get(it.person).land && one.given.equals(GIVEN.get(it.given)));
        state(!it.against.contains(by));
        it.against.add(by);
        return it.against.size();
    }

    public boolean decide(int petition) {
        bounds(within(petition, 0, asked.size() - 1));
        Asked it = asked.get(petition);
        support(!it.decided && today >= it.day + 30);
        it.decided = true;
        Somebody one = all.get(it.person);
        boolean isGranted = it.against.isEmpty() && one.alive && !banned[one.land][it.given];
        if (isGranted) {
            becomes(one, GIVEN.get(it.given), one.second, it.ground == 's');
            one.sealed |= it.ground == 's';
        }
        return isGranted;
    }

    public int record(int person, int clerk, int book) {
        Somebody one = person(person);
        argument(within(clerk, 0, 3) && within(book, 0, 3));
        state(lines.size() < 40);
        Line it = new Line();
        it.person = person;
        it.book = book;
        it.day = today;
        it.sex = one.sex;
        it.given = heard(one.given, clerk);
        it.second = heard(one.second, clerk);
        lines.add(it);
        return lines.size() - 1;
    }

    public int records() {
        return lines.size();
    }

    public char slip(int record, boolean isSecond, int index, char letter) {
        Line it = line(record);
        argument(within(letter, 'a', 'z'));
        String old = isSecond ? it.second : it.given;
        element(within(index, 0, old.length() - 1));
        String slipped = old.substring(0, index) + letter + old.substring(index + 1);
        if (isSecond) {
            it.second = slipped;
        } else {
            it.given = slipped;
        }
        return old.charAt(index);
    }

    private static String text(Line it, boolean isSecond) {
        return isSecond ? it.second : it.given;
    }

    public int writtenLength(int record, boolean isSecond) {
        return text(line(record), isSecond).length();
    }

    public char written(int record, boolean isSecond, int index) {
        String text = text(line(record), isSecond);
        element(within(index, 0, text.length() - 1));
        return text.charAt(index);
    }

    private static String keyOf(String text) {
        if (text.isEmpty()) {
            return "0000";
        }
        List<String> groups = List.of("bfpv", "cgjkqsxz", "dt", "l", "mn", "r");
        String digits = "";
        String last = "none";
        for (int i = 0; i < text.length(); i++) {
            String own = "";
            for (int group = 0; group < 6; group++) {
                own = groups.get(group).indexOf(text.charAt(i)) >= 0 ? "" + (group + 1) : own;
            }
            digits += i == 0 || own.equals(last) ? "" : own;
            last = own;
        }
        return text.charAt(0) + cut(digits + "000", 3);
    }

    public char key(int record, boolean isSecond, int index) {
        Line it = line(record);
        argument(within(index, 0, 3));
        return keyOf(text(it, isSecond)).charAt(index);
    }

    public boolean isClosed(int record) {
        return all.get(line(record).person).sealed;
    }

    public int sorted(int index) {
        element(within(index, 0, lines.size() - 1));
        List<Integer> order = new ArrayList<>();
        for (int i = 0; i < lines.size(); i++) {
            order.add(i);
        }
        order.sort(Comparator.comparing((Integer i) -> lines.get(i).second)
                .thenComparing(i -> lines.get(i).given).thenComparing(i -> i));
        return order.get(index);
    }

    public int setPrice(int limit) {
        argument(within(limit, 0, 99));
        int old = this.limit;
        this.limit = limit;
        return old;
    }

    private static int steps(String a, String b) {
        int[][] least = new int[a.length() + 1][b.length() + 1];
        for (int i = 0; i <= a.length(); i++) {
            for (int j = 0; j <= b.length(); j++) {
                if (i == 0 || j == 0) {
                    least[i][j] = i + j;
                } else {
                    int exchange = least[i - 1][j - 1] + (a.charAt(i - 1) == b.charAt(j - 1) ? 0 : 1);
                    least[i][j] = Math.min(exchange, 1 + Math.min(least[i - 1][j], least[i][j - 1]));
                }
            }
        }
        return least[a.length()][b.length()];
    }

    private static boolean together(Line a, Line b) {
        return a.book == b.book && a.day == b.day;
    }

    public int price(int one, int other) {
        Line a = line(one);
        Line b = line(other);
        return 3 * steps(a.given, b.given) + 2 * steps(a.second, b.second) + (a.sex == b.sex ? 0 : 50)
                + Math.min(20, Math.abs(a.day - b.day) / 10) + (together(a, b) ? 30 : 0);
    }

    public int distance(int one, int other, boolean isSecond) {
        return steps(text(line(one), isSecond), text(line(other), isSecond));
    }

    public boolean isLinked(int one, int other) {
        Line a = line(one);
        Line b = line(other);
        boolean isOpen = !all.get(a.person).sealed && !all.get(b.person).sealed;
        boolean isAlike = keyOf(a.given).equals(keyOf(b.given)) || keyOf(a.second).equals(keyOf(b.second));
        return one != other && isOpen && isAlike && price(one, other) <= limit;
    }

    private int[] lowest() {
        int[] low = new int[lines.size()];
        boolean[][] reach = new boolean[low.length][low.length];
        for (int i = 0; i < low.length; i++) {
            for (int j = 0; j < low.length; j++) {
                reach[i][j] = i == j || (j < i ? reach[j][i] : isLinked(i, j));
            }
        }
        for (int k = 0; k < low.length; k++) {
            for (int i = 0; i < low.length; i++) {
                for (int j = 0; j < low.length; j++) {
                    reach[i][j] |= reach[i][k] && reach[k][j];
                }
            }
        }
        for (int i = 0; i < low.length; i++) {
            while (!reach[i][low[i]]) {
                low[i]++;
            }
        }
        return low;
    }

    public int cluster(int record) {
        line(record);
        return lowest()[record];
    }

    public int clusters() {
        int[] low = lowest();
        int count = 0;
        for (int i = 0; i < low.length; i++) {
            count += low[i] == i && !all.get(lines.get(i).person).sealed ? 1 : 0;
        }
        return count;
    }

    public int clusterAnew(int record) {
        return cluster(record);
    }

    public int doubts() {
        int[] low = lowest();
        TreeSet<Integer> doubtful = new TreeSet<>();
        for (int i = 0; i < low.length; i++) {
            for (int j = i + 1; j < low.length; j++) {
                if (low[i] == low[j] && (price(i, j) >= 50 || together(lines.get(i), lines.get(j)))) {
                    doubtful.add(low[i]);
                }
            }
        }
        return doubtful.size();
    }

    public int wrong() {
        int[] low = lowest();
        int count = 0;
        for (int i = 0; i < low.length; i++) {
            for (int j = i + 1; j < low.length; j++) {
                count += low[i] == low[j] && lines.get(i).person != lines.get(j).person ? 1 : 0;
            }
        }
        return count;
    }

    public int missed() {
        int[] low = lowest();
        int count = 0;
        for (int i = 0; i < low.length; i++) {
            for (int j = i + 1; j < low.length; j++) {
                boolean isOfOne = lines.get(i).person == lines.get(j).person && !all.get(lines.get(i).person).sealed;
                count += isOfOne && low[i] != low[j] ? 1 : 0;
            }
        }
        return count;
    }

    public long print() {
        long figure = 7;
        for (Somebody one : all) {
            for (char sign : (named(one, 'f') + (char) 0).toCharArray()) {
                figure = figure * 31 + sign;
            }
        }
        return figure;
    }

    public float closedShare() {
        if (lines.isEmpty()) {
            throw new ArithmeticException();
        }
        int closed = 0;
        for (Line it : lines) {
            closed += all.get(it.person).sealed ? 1 : 0;
        }
        return (float) closed / (float) lines.size();
    }

    public double meanPrice() {
        int sum = 0;
        int count = 0;
        for (int i = 0; i < lines.size(); i++) {
            for (int j = i + 1; j < lines.size(); j++) {
                if (isLinked(i, j)) {
                    sum += price(i, j);
                    count++;
                }
            }
        }
        if (count == 0) {
            throw new ArithmeticException();
        }
        return (double) sum / (double) count;
    }

    public boolean isSound() {
        return true;
    }
}
