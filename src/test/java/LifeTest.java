import java.util.NoSuchElementException;

/** Promises 1 to 18: a new object, lands and days, life. */
public final class LifeTest {
    private static final Class<IllegalArgumentException> ARGUMENT = IllegalArgumentException.class;
    private static final Class<IndexOutOfBoundsException> BOUNDS = IndexOutOfBoundsException.class;
    private static final Class<UnsupportedOperationException> SUPPORT = UnsupportedOperationException.class;
    private static final Class<IllegalStateException> STATE = IllegalStateException.class;
    private static final Class<NoSuchElementException> ELEMENT = NoSuchElementException.class;

    public static void main(String[] args) {
        newObject();
        days();
        setSystem();
        setMarriage();
        ban();
        forbid();
        birthOrder();
        birthSystems();
        birthOfEmptyNames();
        birthHouses();
        causes();
        die();
        marryRules();
        marryEdges();
        spouse();
        deedAndTell();
        move();
        simpleQuestions();
        Check.finish();
    }

    private static int born(Namebearers x, char sex, int given, int land) {
        return x.birth(-1, -1, sex, given, land);
    }

    /** Takes every letter out of the names of a person that moves with clerk 3. */
    private static void makeNameless(Namebearers x, int person, int land) {
        String given = Check.name(x, person, 'g');
        x.dropRules(3);
        for (char letter : given.toCharArray()) {
            x.addRule(3, letter, ' ', ' ', ' ');
        }
        x.move(person, land, 3);
        x.dropRules(3);
        Check.due("the emptied name", x.length(person, 'g'), 0);
    }

    private static void newObject() {
        Check.promise(1, "a new object");
        Namebearers x = new Namebearers();
        Check.due("persons()", x.persons(), 0);
        Check.due("records()", x.records(), 0);
        Check.due("days(1)", x.days(1), 1);
        Check.due("setSystem(0)", x.setSystem(0, 'd'), 'p');
        Check.due("setSystem(1)", x.setSystem(1, 'd'), 'i');
        Check.due("setSystem(2)", x.setSystem(2, 'd'), 'c');
        Check.due("setSystem(3)", x.setSystem(3, 'd'), 'm');
        Check.due("setMarriage(0)", x.setMarriage(0, 'h'), 'k');
        Check.due("setMarriage(1)", x.setMarriage(1, 'h'), 'm');
        Check.due("setMarriage(2)", x.setMarriage(2, 'h'), 't');
        Check.due("setMarriage(3)", x.setMarriage(3, 'k'), 'h');
        for (int clerk = 0; clerk < 4; clerk++) {
            Check.due("setLimit", x.setLimit(clerk, 1), 24);
            Check.due("dropRules", x.dropRules(clerk), 0);
        }
        Check.due("setPrice", x.setPrice(0), 12);
        Check.due("print()", x.print(), 7L);
        Check.isTrue("isSound()", x.isSound());
        Check.due("the other object's days", new Namebearers().days(5), 5);
    }

    private static void days() {
        Check.promise(2, "days");
        Namebearers x = new Namebearers();
        Check.due("days(1)", x.days(1), 1);
        Check.due("days(999)", x.days(999), 1000);
        for (int wrong : new int[] {0, -1, 1000, Integer.MIN_VALUE, Integer.MAX_VALUE}) {
            Check.refuses("days(" + wrong + ")", ARGUMENT, () -> x.days(wrong));
        }
        Check.due("days(3)", x.days(3), 1003);
    }

    private static void setSystem() {
        Check.promise(3, "setSystem");
        Namebearers x = new Namebearers();
        int anna = born(x, 'f', 0, 0);
        Check.due("to m", x.setSystem(0, 'm'), 'p');
        Check.due("to i", x.setSystem(0, 'i'), 'm');
        Check.due("to c", x.setSystem(0, 'c'), 'i');
        Check.due("to d", x.setSystem(0, 'd'), 'c');
        Check.due("to d again", x.setSystem(0, 'd'), 'd');
        Check.due("who was born ahead of it", Check.name(x, anna, 's'), "");
        Check.due("who was born since", Check.name(x, born(x, 'f', 0, 0), 's'), "sun");
        Check.due("another land", x.setSystem(3, 'p'), 'm');
        Check.refuses("land -1", ARGUMENT, () -> x.setSystem(-1, 'p'));
        Check.refuses("land 4", ARGUMENT, () -> x.setSystem(4, 'p'));
        for (char wrong : new char[] {'k', 'P', 'h', ' ', 'a', (char) 0, (char) 65535}) {
            Check.refuses("system " + wrong, ARGUMENT, () -> x.setSystem(0, wrong));
        }
        Check.due("still", x.setSystem(0, 'p'), 'd');
    }

    private static void setMarriage() {
        Check.promise(4, "setMarriage");
        Namebearers x = new Namebearers();
        Check.due("to m", x.setMarriage(0, 'm'), 'k');
        Check.due("to t", x.setMarriage(0, 't'), 'm');
        Check.due("to h", x.setMarriage(0, 'h'), 't');
        Check.due("to k", x.setMarriage(0, 'k'), 'h');
        Check.refuses("land -1", ARGUMENT, () -> x.setMarriage(-1, 'k'));
        Check.refuses("land 4", ARGUMENT, () -> x.setMarriage(4, 'k'));
        for (char wrong : new char[] {'p', 'K', 'd', ' ', (char) 0}) {
            Check.refuses("rule " + wrong, ARGUMENT, () -> x.setMarriage(1, wrong));
        }
        Check.due("still", x.setMarriage(1, 'k'), 'm');
    }

    private static void ban() {
        Check.promise(5, "ban");
        Namebearers x = new Namebearers();
        Check.isFalse("first", x.ban(0, 15, true));
        Check.isTrue("again", x.ban(0, 15, true));
        Check.isFalse("in another land", x.ban(1, 15, false));
        Check.isFalse("another name", x.ban(0, 0, true));
        Check.refuses("birth", SUPPORT, () -> born(x, 'm', 15, 0));
        Check.due("birth elsewhere", born(x, 'm', 15, 1), 0);
        Check.isTrue("allowed", x.ban(0, 15, false));
        Check.isFalse("allowed again", x.ban(0, 15, false));
        Check.due("birth", born(x, 'm', 15, 0), 1);
        Check.refuses("the other name", SUPPORT, () -> born(x, 'f', 0, 0));
        Check.refuses("land -1", ARGUMENT, () -> x.ban(-1, 0, true));
        Check.refuses("land 4", ARGUMENT, () -> x.ban(4, 0, true));
        Check.refuses("name -1", ARGUMENT, () -> x.ban(0, -1, true));
        Check.refuses("name 16", ARGUMENT, () -> x.ban(0, 16, true));
    }

    private static void forbid() {
        Check.promise(6, "forbid");
        Namebearers x = new Namebearers();
        int mother = born(x, 'f', 0, 0);
        int father = born(x, 'm', 1, 0);
        int other = born(x, 'm', 3, 0);
        Check.due("a child", x.birth(mother, father, 'm', 4, 0), 3);
        Check.due("a child of the same name", x.birth(mother, father, 'm', 4, 0), 4);
        Check.isFalse("first", x.forbid(0, true));
        Check.isTrue("again", x.forbid(0, true));
        Check.refuses("of the same mother", SUPPORT, () -> x.birth(mother, other, 'm', 4, 0));
        Check.refuses("of the same father", SUPPORT, () -> x.birth(-1, father, 'm', 4, 0));
        Check.due("of neither", x.birth(-1, other, 'm', 4, 0), 5);
        Check.due("without parents", x.birth(-1, -1, 'm', 4, 0), 6);
        Check.due("without parents again", x.birth(-1, -1, 'm', 4, 0), 7);
        Check.due("in another land", x.birth(mother, father, 'm', 4, 1), 8);
        Check.due("a name of a parent", x.birth(mother, father, 'f', 0, 0), 9);
        Check.isTrue("allowed", x.forbid(0, false));
        Check.isFalse("allowed again", x.forbid(0, false));
        Check.due("then", x.birth(mother, father, 'm', 4, 0), 10);
        Check.refuses("land -1", ARGUMENT, () -> x.forbid(-1, true));
        Check.refuses("land 4", ARGUMENT, () -> x.forbid(4, true));
    }

    private static void birthOrder() {
        Check.promise(7, "birth, what it refuses");
        Namebearers x = new Namebearers();
        Check.refuses("mother 0", BOUNDS, () -> x.birth(0, -1, 'x', 16, 4));
        Check.refuses("father -2", BOUNDS, () -> x.birth(-1, -2, 'm', 0, 0));
        Check.refuses("mother -2", BOUNDS, () -> x.birth(Integer.MIN_VALUE, -1, 'm', 0, 0));
        Check.due("first", x.birth(-1, -1, 'f', 0, 0), 0);
        Check.refuses("father 1", BOUNDS, () -> x.birth(0, 1, 'm', 0, 0));
        Check.refuses("sex M", ARGUMENT, () -> x.birth(-1, -1, 'M', 0, 0));
        Check.refuses("name -1", ARGUMENT, () -> x.birth(-1, -1, 'm', -1, 0));
        Check.refuses("name 16", ARGUMENT, () -> x.birth(-1, -1, 'm', 16, 0));
        Check.refuses("land -1", ARGUMENT, () -> x.birth(-1, -1, 'm', 0, -1));
        Check.refuses("land 4", ARGUMENT, () -> x.birth(-1, -1, 'm', 0, 4));
        Check.refuses("one parent twice", ARGUMENT, () -> x.birth(0, 0, 'm', 0, 0));
        x.ban(0, 5, true);
        Check.refuses("one parent twice and banned", ARGUMENT, () -> x.birth(0, 0, 'm', 5, 0));
        Check.due("persons()", x.persons(), 1);
        for (int i = 1; i < 40; i++) {
            Check.due("birth", x.birth(-1, -1, 'm', i % 5, i % 4), i);
        }
        Check.refuses("41st", STATE, () -> x.birth(-1, -1, 'm', 0, 0));
        Check.refuses("41st and banned", STATE, () -> x.birth(-1, -1, 'm', 5, 0));
        Check.refuses("41st and no such name", ARGUMENT, () -> x.birth(-1, -1, 'm', 16, 0));
        Check.refuses("no cause of these", ELEMENT, () -> x.cause(0));
        Check.due("persons()", x.persons(), 40);
    }

    private static void birthSystems() {
        Check.promise(7, "birth, second names");
        Namebearers x = new Namebearers();
        int anna = born(x, 'f', 0, 0);
        int bjorn = born(x, 'm', 1, 0);
        Check.due("p, none", Check.name(x, anna, 's'), "");
        Check.due("p", Check.name(x, x.birth(anna, bjorn, 'm', 3, 0), 's'), "bjornson");
        Check.due("p, daughter", Check.name(x, x.birth(anna, bjorn, 'f', 2, 0), 's'), "bjorndot");
        Check.due("p, mother alone", Check.name(x, x.birth(anna, -1, 'f', 2, 0), 's'), "annadot");
        Check.due("m", Check.name(x, x.birth(anna, bjorn, 'm', 3, 3), 's'), "annason");
        Check.due("m, father alone", Check.name(x, x.birth(-1, bjorn, 'f', 5, 3), 's'), "bjorndot");
        Check.due("m, none", Check.name(x, born(x, 'f', 5, 3), 's'), "");
        Check.due("i, none", Check.name(x, x.birth(anna, bjorn, 'f', 5, 1), 's'), "");
        Check.due("i, father's", Check.name(x, x.birth(4, 2, 'f', 5, 1), 's'), "bjornson");
        Check.due("i, mother's, as the father has none", Check.name(x, x.birth(4, bjorn, 'f', 5, 1), 's'), "annadot");
        Check.due("i, mother alone", Check.name(x, x.birth(4, -1, 'f', 5, 1), 's'), "annadot");
        x.deed(bjorn, 0);
        x.tell(0, bjorn);
        x.tell(2, bjorn);
        Check.due("i, a by-name told by two", Check.name(x, x.birth(4, bjorn, 'f', 5, 1), 's'), "annadot");
        x.tell(3, bjorn);
        Check.due("i, a by-name that sticks", Check.name(x, x.birth(4, bjorn, 'f', 5, 1), 's'), "red");
        x.deed(2, 1);
        x.tell(0, 2);
        x.tell(1, 2);
        x.tell(3, 2);
        Check.due("i, father's ahead of a by-name", Check.name(x, x.birth(4, 2, 'f', 5, 1), 's'), "bjornson");
        x.setSystem(2, 'd');
        String[] days = {"sun", "moon", "tyr", "odin", "thor", "frig", "bath", "sun"};
        for (String day : days) {
            Check.due("d", Check.name(x, born(x, 'f', 5, 2), 's'), day);
            x.days(1);
        }
        x.days(6);
        Check.due("d on day 14", Check.name(x, x.birth(anna, bjorn, 'f', 5, 2), 's'), "sun");
        x.die(bjorn);
        Check.due("a dead father", Check.name(x, x.birth(anna, bjorn, 'm', 3, 0), 's'), "bjornson");
        Check.due("the land", x.landOf(2), 0);
        Check.isTrue("isSound()", x.isSound());
    }

    private static void birthOfEmptyNames() {
        Check.promise(7, "birth, parents whose names are empty");
        Namebearers x = new Namebearers();
        int anna = born(x, 'f', 0, 0);
        int bjorn = born(x, 'm', 1, 0);
        makeNameless(x, bjorn, 1);
        Check.due("p, father's is empty", Check.name(x, x.birth(anna, bjorn, 'm', 3, 0), 's'), "annason");
        Check.due("p, father's is empty, no mother", Check.name(x, x.birth(-1, bjorn, 'm', 3, 0), 's'), "");
        Check.due("m, father alone, empty", Check.name(x, x.birth(-1, bjorn, 'm', 3, 3), 's'), "");
        int carla = born(x, 'f', 2, 0);
        int david = born(x, 'm', 3, 0);
        makeNameless(x, carla, 1);
        Check.due("m, mother's is empty", Check.name(x, x.birth(carla, david, 'f', 4, 3), 's'), "daviddot");
        Check.due("p, both are empty", Check.name(x, x.birth(carla, bjorn, 'f', 4, 0), 's'), "");
        Check.due("m, both are empty", Check.name(x, x.birth(carla, bjorn, 'f', 4, 3), 's'), "");
        x.setLimit(2, 3);
        x.move(anna, 2, 2);
        Check.due("a name as it is then", Check.name(x, x.birth(anna, -1, 'f', 4, 0), 's'), "anndot");
        Check.isTrue("isSound()", x.isSound());
    }

    private static void birthHouses() {
        Check.promise(7, "birth, houses and generations");
        Namebearers x = new Namebearers();
        String[] houses = {"berg", "lund", "holm", "strand", "dahl", "moe", "vik", "haug", "berg"};
        for (String house : houses) {
            Check.due("no parents", Check.name(x, born(x, 'f', 0, 2), 's'), house + "an");
        }
        Check.due("of both", Check.name(x, x.birth(1, 2, 'm', 3, 2), 's'), "holmbe");
        Check.due("of the mother", Check.name(x, x.birth(1, -1, 'm', 3, 2), 's'), "lundbe");
        Check.due("third", Check.name(x, x.birth(4, 9, 'm', 3, 2), 's'), "holmco");
        Check.due("fourth, counted from the father", Check.name(x, x.birth(4, 11, 'm', 3, 2), 's'), "holmdu");
        Check.due("fifth, modulo 4", Check.name(x, x.birth(-1, 12, 'm', 3, 2), 's'), "holman");
        Check.due("the father's generation", Check.name(x, x.birth(13, 6, 'm', 3, 2), 's'), "vikbe");
        Check.due("born elsewhere", Check.name(x, x.birth(-1, 13, 'm', 3, 0), 's'), "davidson");
        Check.due("whose father was", Check.name(x, x.birth(0, 15, 'm', 3, 2), 's'), "holmco");
    }

    private static void causes() {
        Check.promise(8, "cause and causeNumber (9)");
        Namebearers x = new Namebearers();
        Check.refuses("cause(0) at first", ELEMENT, () -> x.cause(0));
        Check.refuses("causeNumber(0) at first", ELEMENT, () -> x.causeNumber(0));
        int mother = born(x, 'f', 0, 1);
        int father = born(x, 'm', 1, 1);
        x.forbid(3, true);
        x.ban(3, 7, true);
        Check.refuses("banned", SUPPORT, () -> x.birth(mother, father, 'f', 7, 3));
        checkCauses(x, 'b', 3, 7);
        int first = x.birth(mother, -1, 'f', 7, 1);
        int second = x.birth(-1, father, 'f', 6, 1);
        int third = x.birth(mother, father, 'f', 6, 1);
        Check.refuses("both", SUPPORT, () -> x.birth(mother, -1, 'f', 7, 3));
        checkCauses(x, 'b', 3, 7);
        Check.refuses("the lowest", SUPPORT, () -> x.birth(mother, father, 'f', 6, 3));
        checkCauses(x, 'l', second, 6);
        Check.refuses("the lowest of the mother", SUPPORT, () -> x.birth(mother, -1, 'f', 6, 3));
        checkCauses(x, 'l', third, 6);
        x.die(second);
        Check.refuses("the lowest living", SUPPORT, () -> x.birth(mother, father, 'f', 6, 3));
        checkCauses(x, 'l', third, 6);
        x.ban(3, 7, false);
        x.setLimit(0, 2);
        x.move(first, 2, 0);
        Check.due("a name that is another one by now", x.birth(mother, father, 'f', 7, 3), 5);
        checkCauses(x, 'l', third, 6);
        Check.refuses("no such name", ARGUMENT, () -> x.birth(-1, -1, 'f', 16, 3));
        checkCauses(x, 'l', third, 6);
        x.setLimit(0, 24);
        x.addRule(0, 'h', 'a', ' ', ' ');
        x.addRule(0, 'n', 'n', 'o', 'l');
        x.addRule(0, 'a', ' ', 'g', 'a');
        x.move(5, 0, 0);
        Check.due("written as heard", Check.name(x, 5, 'g'), "olga");
        Check.refuses("a name that came with a move", SUPPORT, () -> x.birth(-1, father, 'f', 14, 3));
        checkCauses(x, 'l', 5, 14);
    }

    private static void checkCauses(Namebearers x, char letter, int number, int given) {
        Check.due("cause(0)", x.cause(0), letter);
        Check.due("causeNumber(0)", x.causeNumber(0), number);
        Check.due("cause(1)", x.cause(1), 'n');
        Check.due("causeNumber(1)", x.causeNumber(1), given);
        for (int wrong : new int[] {-1, 2, Integer.MAX_VALUE, Integer.MIN_VALUE}) {
            Check.refuses("cause(" + wrong + ")", ELEMENT, () -> x.cause(wrong));
            Check.refuses("causeNumber(" + wrong + ")", ELEMENT, () -> x.causeNumber(wrong));
        }
    }

    private static void die() {
        Check.promise(10, "die");
        Namebearers x = new Namebearers();
        Check.refuses("nobody", BOUNDS, () -> x.die(0));
        born(x, 'f', 0, 0);
        born(x, 'm', 1, 0);
        born(x, 'm', 2, 0);
        x.marry(0, 1);
        Check.isFalse("single", x.die(2));
        Check.isTrue("married", x.die(0));
        Check.isFalse("isAlive", x.isAlive(0));
        Check.refuses("dead", SUPPORT, () -> x.die(0));
        Check.isFalse("widowed", x.die(1));
        Check.refuses("-1", BOUNDS, () -> x.die(-1));
        Check.refuses("3", BOUNDS, () -> x.die(3));
    }

    private static Namebearers family(char rule, char sexOfOne, char sexOfOther) {
        Namebearers x = new Namebearers();
        x.setSystem(3, 'c');
        x.setMarriage(3, rule);
        x.birth(-1, -1, sexOfOne, 0, 3);
        x.birth(-1, -1, sexOfOther, 1, 2);
        return x;
    }

    private static void checkMarriage(Namebearers x, int changed, String one, String other) {
        Check.due("marry", x.marry(0, 1), changed);
        Check.due("the first one", Check.name(x, 0, 's'), one);
        Check.due("the second one", Check.name(x, 1, 's'), other);
        Check.due("changes of the first one", x.changes(0), one.equals("bergan") ? 0 : 1);
        Check.due("changes of the second one", x.changes(1), other.equals("lundan") ? 0 : 1);
        Check.isTrue("isSound()", x.isSound());
    }

    private static void marryRules() {
        Check.promise(11, "marry, rules");
        checkMarriage(family('k', 'f', 'm'), 0, "bergan", "lundan");
        checkMarriage(family('m', 'f', 'm'), 1, "lundan", "lundan");
        checkMarriage(family('m', 'm', 'f'), 1, "bergan", "bergan");
        checkMarriage(family('m', 'f', 'f'), 0, "bergan", "lundan");
        checkMarriage(family('m', 'm', 'm'), 0, "bergan", "lundan");
        checkMarriage(family('t', 'f', 'm'), 1, "bergan", "bergan");
        checkMarriage(family('h', 'f', 'm'), 2, "bergan-lundan", "lundan-bergan");
        Namebearers x = family('h', 'f', 'm');
        Check.due("by the land of the first one, here 2 with t", x.marry(1, 0), 1);
        Check.due("who took it", Check.name(x, 0, 's'), "lundan");
    }

    private static void marryEdges() {
        Check.promise(11, "marry, edges");
        Namebearers x = new Namebearers();
        x.setMarriage(0, 'h');
        born(x, 'f', 0, 0);
        born(x, 'm', 1, 0);
        Check.due("both empty", x.marry(0, 1), 2);
        Check.due("both empty", Check.name(x, 0, 's') + Check.name(x, 1, 's'), "--");
        born(x, 'm', 2, 0);
        Check.refuses("other is married", SUPPORT, () -> x.marry(2, 0));
        Check.refuses("one is married", SUPPORT, () -> x.marry(0, 2));
        Check.refuses("the same", SUPPORT, () -> x.marry(2, 2));
        Check.refuses("no such other", BOUNDS, () -> x.marry(2, 3));
        Check.refuses("no such one", BOUNDS, () -> x.marry(-1, 2));
        Check.refuses("no such one, twice", BOUNDS, () -> x.marry(3, 3));
        x.die(1);
        Check.refuses("dead", SUPPORT, () -> x.marry(2, 1));
        Check.refuses("dead", SUPPORT, () -> x.marry(1, 2));
        Check.due("a widow", x.marry(0, 2), 2);
        Check.due("a widow", Check.name(x, 0, 's') + " " + Check.name(x, 2, 's'), "-- --");
        Check.due("changes", x.changes(0), 2);
        x.setMarriage(0, 't');
        x.die(2);
        born(x, 'm', 3, 0);
        Check.due("t, a second one that was empty", x.marry(0, 3), 1);
        x.die(0);
        born(x, 'f', 4, 0);
        Check.due("t, takes an empty one", x.marry(4, 3), 1);
        Check.due("t, takes an empty one", x.length(3, 's'), 0);
        longNames();
    }

    /** Marriages one after another make a name longer than 40 signs, if nothing cuts it. */
    private static void longNames() {
        Namebearers x = new Namebearers();
        x.setMarriage(2, 'h');
        born(x, 'f', 0, 2);
        String expected = "bergan";
        int last = 0;
        for (int i = 0; i < 8; i++) {
            int mate = born(x, 'm', 1, 2);
            String ofMate = Check.name(x, mate, 's');
            String before = expected;
            expected = cut(expected + "-" + ofMate);
            int changed = expected.equals(before) ? 0 : 1;
            Check.due("marry", x.marry(0, mate), changed + 1);
            last = mate;
            Check.due("the longer name", Check.name(x, 0, 's'), expected);
            Check.due("the mate's", Check.name(x, mate, 's'), cut(ofMate + "-" + before));
            x.die(mate);
        }
        Check.due("40 signs", x.length(last, 's'), 40);
        Check.due("40 signs", x.length(0, 's'), 40);
    }

    private static String cut(String text) {
        return text.length() > 40 ? text.substring(0, 40) : text;
    }

    private static void spouse() {
        Check.promise(12, "spouse");
        Namebearers x = new Namebearers();
        Check.refuses("nobody", BOUNDS, () -> x.spouse(0));
        born(x, 'f', 0, 0);
        born(x, 'm', 1, 0);
        born(x, 'm', 2, 0);
        Check.refuses("single", ELEMENT, () -> x.spouse(0));
        x.marry(2, 0);
        Check.due("spouse(0)", x.spouse(0), 2);
        Check.due("spouse(2)", x.spouse(2), 0);
        Check.refuses("spouse(1)", ELEMENT, () -> x.spouse(1));
        x.die(2);
        Check.refuses("a widow", ELEMENT, () -> x.spouse(0));
        Check.refuses("the dead one", ELEMENT, () -> x.spouse(2));
        Check.refuses("-1", BOUNDS, () -> x.spouse(-1));
        Check.refuses("3", BOUNDS, () -> x.spouse(3));
    }

    private static void deedAndTell() {
        Check.promise(13, "deed and tell (14)");
        Namebearers x = new Namebearers();
        for (int i = 0; i < 6; i++) {
            born(x, 'f', i, 0);
        }
        Check.refuses("no by-name to tell", SUPPORT, () -> x.tell(1, 0));
        Check.due("deed", x.deed(0, 3), -1);
        Check.due("deed again", x.deed(0, 0), 3);
        Check.due("tell", x.tell(1, 0), 1);
        Check.due("tell again", x.tell(1, 0), 1);
        Check.due("tell", x.tell(2, 0), 2);
        Check.due("a deed starts anew", x.deed(0, 0), 0);
        Check.due("tell", x.tell(2, 0), 1);
        Check.refuses("by the bearer", SUPPORT, () -> x.tell(0, 0));
        Check.due("tell", x.tell(3, 0), 2);
        x.die(3);
        Check.refuses("by a dead one", SUPPORT, () -> x.tell(3, 0));
        Check.due("two do not make it stick", x.length(0, 'b'), 0);
        Check.due("still in its place", x.deed(1, 2), -1);
        Check.due("tell", x.tell(1, 0), 3);
        Check.due("three do", Check.name(x, 0, 'b'), "red");
        Check.due("no change of a name", x.changes(0), 0);
        Check.due("a fourth one", x.tell(4, 0), 4);
        Check.refuses("one sticks", STATE, () -> x.deed(0, 1));
        Check.refuses("no such by-name, though one sticks", ARGUMENT, () -> x.deed(0, 4));
        Check.refuses("no such by-name", ARGUMENT, () -> x.deed(2, -1));
        Check.refuses("of a dead one", SUPPORT, () -> x.deed(3, 1));
        Check.refuses("no such by-name of a dead one", ARGUMENT, () -> x.deed(3, 4));
        Check.refuses("no such person", BOUNDS, () -> x.deed(6, 4));
        Check.refuses("no such person", BOUNDS, () -> x.deed(-1, 0));
        x.die(0);
        Check.refuses("sticks, but is dead", SUPPORT, () -> x.deed(0, 1));
        Check.refuses("about a dead one", SUPPORT, () -> x.tell(1, 0));
        Check.refuses("no such teller", BOUNDS, () -> x.tell(6, 0));
        Check.refuses("no such person", BOUNDS, () -> x.tell(0, -1));
        farTellers();
        String[] names = {"red", "tall", "wise", "lame"};
        for (int i = 0; i < 4; i++) {
            Namebearers y = new Namebearers();
            for (int p = 0; p < 4; p++) {
                born(y, 'm', 9, 0);
            }
            y.deed(3, i);
            y.tell(0, 3);
            y.tell(1, 3);
            y.tell(2, 3);
            Check.due("by-name " + i, Check.name(y, 3, 'b'), names[i]);
        }
    }

    private static void farTellers() {
        Namebearers x = new Namebearers();
        for (int i = 0; i < 40; i++) {
            born(x, 'f', 4, 0);
        }
        x.deed(39, 1);
        Check.due("by 0", x.tell(0, 39), 1);
        Check.due("by 32", x.tell(32, 39), 2);
        Check.due("by 32 again", x.tell(32, 39), 2);
        Check.due("by 38", x.tell(38, 39), 3);
        Check.due("by 6", x.tell(6, 39), 4);
        x.petition(0, 4, 'u');
        Check.due("opposed by 1", x.oppose(0, 1), 1);
        Check.due("opposed by 33", x.oppose(0, 33), 2);
        Check.due("opposed by 39", x.oppose(0, 39), 3);
        Check.due("opposed by 7", x.oppose(0, 7), 4);
        Check.refuses("opposed by 33 again", STATE, () -> x.oppose(0, 33));
    }

    private static void move() {
        Check.promise(15, "move");
        Namebearers x = new Namebearers();
        born(x, 'm', 1, 0);
        x.birth(-1, 0, 'm', 9, 0);
        x.addRule(2, 'j', ' ', 'y', ' ');
        Check.due("both names", x.move(1, 3, 2), 2);
        Check.due("given", Check.name(x, 1, 'g'), "yon");
        Check.due("second", Check.name(x, 1, 's'), "byornson");
        Check.due("one act", x.changes(1), 1);
        Check.due("land", x.landOf(1), 3);
        Check.due("nothing to hear", x.move(1, 0, 2), 0);
        Check.due("no change", x.changes(1), 1);
        x.setLimit(1, 4);
        Check.due("one name alone", x.move(1, 2, 1), 1);
        Check.due("cut", Check.name(x, 1, 's'), "byor");
        Check.due("two changes", x.changes(1), 2);
        Check.due("a child in the land that is told", Check.name(x, x.birth(-1, 1, 'f', 0, 0), 's'), "yondot");
        Check.refuses("there already", ARGUMENT, () -> x.move(1, 2, 0));
        Check.refuses("land -1", ARGUMENT, () -> x.move(1, -1, 0));
        Check.refuses("land 4", ARGUMENT, () -> x.move(1, 4, 0));
        Check.refuses("clerk -1", ARGUMENT, () -> x.move(1, 0, -1));
        Check.refuses("clerk 4", ARGUMENT, () -> x.move(1, 0, 4));
        Check.refuses("no such person", BOUNDS, () -> x.move(3, 4, 4));
        x.die(1);
        Check.refuses("dead", SUPPORT, () -> x.move(1, 0, 0));
        Check.refuses("dead and there already", ARGUMENT, () -> x.move(1, 2, 0));
        Check.isTrue("isSound()", x.isSound());
        moveOfDashes();
    }

    private static void moveOfDashes() {
        Namebearers x = family('h', 'f', 'm');
        x.marry(0, 1);
        x.addRule(0, 'n', ' ', ' ', ' ');
        x.addRule(0, 'n', 'l', 'x', 'x');
        Check.due("both names", x.move(0, 0, 0), 2);
        Check.due("dashes stay", Check.name(x, 0, 's'), "berga-luda");
    }

    private static void simpleQuestions() {
        Namebearers x = new Namebearers();
        Check.promise(16, "isAlive");
        Check.refuses("nobody", BOUNDS, () -> x.isAlive(0));
        born(x, 'f', 0, 2);
        born(x, 'f', 0, 1);
        x.die(1);
        Check.isTrue("isAlive(0)", x.isAlive(0));
        Check.isFalse("isAlive(1)", x.isAlive(1));
        Check.refuses("-1", BOUNDS, () -> x.isAlive(-1));
        Check.promise(17, "landOf");
        Check.due("landOf(0)", x.landOf(0), 2);
        x.move(0, 3, 0);
        Check.due("landOf(0)", x.landOf(0), 3);
        Check.due("landOf(1)", x.landOf(1), 1);
        Check.refuses("2", BOUNDS, () -> x.landOf(2));
        Check.refuses("-1", BOUNDS, () -> x.landOf(-1));
        Check.promise(18, "persons");
        Check.due("persons(), the dead too", x.persons(), 2);
    }
}
