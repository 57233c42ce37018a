import java.util.NoSuchElementException;

/** Promises 19 to 31: names, clerks, petitions. */
public final class NamesTest {
    private static final Class<IllegalArgumentException> ARGUMENT = IllegalArgumentException.class;
    private static final Class<IndexOutOfBoundsException> BOUNDS = IndexOutOfBoundsException.class;
    private static final Class<UnsupportedOperationException> SUPPORT = UnsupportedOperationException.class;
    private static final Class<IllegalStateException> STATE = IllegalStateException.class;
    private static final Class<NoSuchElementException> ELEMENT = NoSuchElementException.class;

    public static void main(String[] args) {
        givenNames();
        kindsOfNames();
        length();
        letter();
        changesAndWasCalled();
        sealedChanges();
        bearers();
        fashion();
        addRule();
        howClerksWrite();
        dropRules();
        setLimit();
        petition();
        oppose();
        decide();
        decideForSafety();
        Check.finish();
    }

    private static int born(Namebearers x, int given) {
        return x.birth(-1, -1, 'f', given, 0);
    }

    private static void stick(Namebearers x, int person, int byName) {
        x.deed(person, byName);
        for (int teller = 0; teller < 4; teller++) {
            if (teller != person) {
                x.tell(teller, person);
            }
        }
    }

    private static void givenNames() {
        Check.promise(19, "the sixteen names");
        String[] names = {"anna", "bjorn", "carla", "david", "erik", "freya", "gunnar", "hanna", "ivar", "jon", "karin",
            "lars", "maria", "nils", "olga", "pal"};
        Namebearers x = new Namebearers();
        for (int i = 0; i < 16; i++) {
            Check.due("name " + i, Check.name(x, born(x, i), 'g'), names[i]);
        }
    }

    private static void kindsOfNames() {
        Check.promise(20, "letter and length (19), kinds of names");
        Namebearers x = new Namebearers();
        born(x, 11);
        x.birth(-1, 0, 'm', 4, 0);
        born(x, 0);
        born(x, 15);
        Check.due("f, given alone", Check.name(x, 0, 'f'), "lars");
        Check.due("f, given and second", Check.name(x, 1, 'f'), "erik larsson");
        Check.due("b, none", Check.name(x, 1, 'b'), "");
        stick(x, 1, 3);
        stick(x, 0, 1);
        Check.due("b", Check.name(x, 1, 'b'), "lame");
        Check.due("f, all", Check.name(x, 1, 'f'), "erik lame larsson");
        Check.due("f, no second", Check.name(x, 0, 'f'), "lars tall");
        Check.due("o", Check.name(x, 1, 'o'), "eriks");
        Check.due("o behind s", Check.name(x, 0, 'o'), "lars");
        x.addRule(0, 'p', 'a', ' ', ' ');
        x.addRule(0, 'l', ' ', 'x', ' ');
        x.move(3, 1, 0);
        Check.due("o behind x", Check.name(x, 3, 'o'), "x");
        x.addRule(1, 'x', ' ', 'b', 'z');
        x.move(3, 0, 1);
        Check.due("o behind z", Check.name(x, 3, 'o'), "bz");
        x.addRule(2, 'b', 'z', ' ', ' ');
        x.move(3, 2, 2);
        Check.due("o, empty", Check.name(x, 3, 'o'), "");
        Check.due("f, all empty", Check.name(x, 3, 'f'), "");
        stick(x, 3, 0);
        Check.due("f, by-name alone", Check.name(x, 3, 'f'), "red");
        x.addRule(3, 'e', 'r', ' ', ' ');
        x.addRule(3, 'i', 'k', ' ', ' ');
        x.move(1, 3, 3);
        Check.due("f, by-name and second", Check.name(x, 1, 'f'), "lame larsson");
        x.setLimit(2, 1);
        x.setLimit(3, 1);
        x.dropRules(3);
        x.move(0, 1, 2);
        Check.due("f, of one letter and a by-name", Check.name(x, 0, 'f'), "l tall");
        born(x, 2);
        x.birth(-1, 0, 'f', 8, 0);
        x.move(5, 1, 3);
        Check.due("f, of two single letters", Check.name(x, 5, 'f'), "i l");
    }

    private static void length() {
        Check.promise(19, "length");
        Namebearers x = new Namebearers();
        Check.refuses("nobody", BOUNDS, () -> x.length(0, 'q'));
        born(x, 6);
        Check.due("g", x.length(0, 'g'), 6);
        Check.due("s", x.length(0, 's'), 0);
        Check.due("b", x.length(0, 'b'), 0);
        Check.due("f", x.length(0, 'f'), 6);
        Check.due("o", x.length(0, 'o'), 7);
        for (char wrong : new char[] {'q', 'G', ' ', (char) 0, 'p', (char) 65535}) {
            Check.refuses("kind " + wrong, ARGUMENT, () -> x.length(0, wrong));
        }
        Check.refuses("-1", BOUNDS, () -> x.length(-1, 'g'));
        Check.refuses("1", BOUNDS, () -> x.length(1, 'g'));
    }

    private static void letter() {
        Check.promise(20, "letter");
        Namebearers x = new Namebearers();
        born(x, 6);
        Check.due("0", x.letter(0, 'g', 0), 'g');
        Check.due("5", x.letter(0, 'g', 5), 'r');
        Check.due("o 6", x.letter(0, 'o', 6), 's');
        Check.refuses("g 6", ELEMENT, () -> x.letter(0, 'g', 6));
        Check.refuses("g -1", ELEMENT, () -> x.letter(0, 'g', -1));
        Check.refuses("s 0", ELEMENT, () -> x.letter(0, 's', 0));
        Check.refuses("b 0", ELEMENT, () -> x.letter(0, 'b', 0));
        Check.refuses("f 6", ELEMENT, () -> x.letter(0, 'f', Integer.MAX_VALUE));
        Check.refuses("kind q", ARGUMENT, () -> x.letter(0, 'q', -1));
        Check.refuses("person 1", BOUNDS, () -> x.letter(1, 'q', -1));
        Check.refuses("person -1", BOUNDS, () -> x.letter(-1, 'g', 0));
    }

    private static void changesAndWasCalled() {
        Check.promise(21, "changes and wasCalled (22)");
        Namebearers x = new Namebearers();
        Check.refuses("nobody", BOUNDS, () -> x.changes(0));
        Check.refuses("nobody", BOUNDS, () -> x.wasCalled(0, 0, 0));
        born(x, 3);
        x.birth(0, -1, 'f', 5, 0);
        x.setMarriage(0, 't');
        Check.due("none", x.changes(0), 0);
        Check.refuses("none", ELEMENT, () -> x.wasCalled(0, 0, 0));
        x.marry(1, 0);
        Check.due("the second name", x.changes(0), 1);
        Check.due("the other one kept it", x.changes(1), 0);
        Check.due("its given name then", Check.wasCalled(x, 0, 0, 5), "david");
        x.setLimit(0, 2);
        x.move(0, 1, 0);
        Check.due("by a move", x.changes(0), 2);
        Check.due("its given name then", Check.wasCalled(x, 0, 1, 5), "david");
        x.petition(0, 9, 'm');
        x.days(30);
        x.decide(0);
        Check.due("by a petition", x.changes(0), 3);
        Check.due("its given name then", Check.wasCalled(x, 0, 2, 2), "da");
        x.petition(0, 9, 'u');
        x.days(30);
        Check.isTrue("the same name", x.decide(1));
        Check.due("no change", x.changes(0), 3);
        Check.refuses("index 3", ELEMENT, () -> x.wasCalled(0, 3, 0));
        Check.refuses("index -1", ELEMENT, () -> x.wasCalled(0, -1, 0));
        Check.refuses("at 5", ELEMENT, () -> x.wasCalled(0, 0, 5));
        Check.refuses("at 2", ELEMENT, () -> x.wasCalled(0, 2, 2));
        Check.refuses("at -1", ELEMENT, () -> x.wasCalled(0, 0, -1));
        Check.refuses("person 2", BOUNDS, () -> x.wasCalled(2, 0, 0));
        Check.refuses("person -1", BOUNDS, () -> x.changes(-1));
        Check.refuses("person 2", BOUNDS, () -> x.changes(2));
    }

    private static void sealedChanges() {
        Check.promise(23, "isSealed, and sealed changes (21, 22)");
        Namebearers x = new Namebearers();
        Check.refuses("nobody", BOUNDS, () -> x.isSealed(0));
        born(x, 0);
        born(x, 1);
        x.setLimit(0, 3);
        x.move(0, 1, 0);
        x.petition(0, 2, 's');
        Check.isFalse("asked", x.isSealed(0));
        x.days(30);
        Check.isTrue("granted", x.decide(0));
        Check.isTrue("sealed", x.isSealed(0));
        Check.isFalse("another one", x.isSealed(1));
        Check.due("the given name", Check.name(x, 0, 'g'), "carla");
        Check.due("left out", x.changes(0), 1);
        Check.due("the one before", Check.wasCalled(x, 0, 0, 4), "anna");
        Check.refuses("left out", ELEMENT, () -> x.wasCalled(0, 1, 0));
        x.move(0, 2, 0);
        Check.due("a later one is open", x.changes(0), 2);
        Check.due("a later one", Check.wasCalled(x, 0, 1, 5), "carla");
        x.petition(0, 4, 'u');
        x.days(30);
        x.decide(1);
        Check.due("for another ground", x.changes(0), 3);
        Check.isTrue("still sealed", x.isSealed(0));
        Check.refuses("-1", BOUNDS, () -> x.isSealed(-1));
        Check.refuses("2", BOUNDS, () -> x.isSealed(2));
    }

    private static void bearers() {
        Check.promise(24, "bearers");
        Namebearers x = new Namebearers();
        Check.due("0", x.bearers(0), 0);
        born(x, 0);
        Check.refuses("1", ELEMENT, () -> x.bearers(0));
        born(x, 0);
        Check.refuses("2", ELEMENT, () -> x.bearers(0));
        born(x, 0);
        Check.due("3", x.bearers(0), 3);
        born(x, 0);
        Check.due("4", x.bearers(0), 4);
        x.die(0);
        Check.due("of whom one is dead", x.bearers(0), 3);
        x.setLimit(0, 3);
        x.move(1, 1, 0);
        Check.refuses("just this name", ELEMENT, () -> x.bearers(0));
        x.petition(1, 0, 'u');
        x.days(30);
        x.decide(0);
        Check.due("by a petition", x.bearers(0), 3);
        Check.due("another name", x.bearers(15), 0);
        Check.refuses("-1", ARGUMENT, () -> x.bearers(-1));
        Check.refuses("16", ARGUMENT, () -> x.bearers(16));
    }

    private static void fashion() {
        Check.promise(25, "fashion");
        Namebearers x = new Namebearers();
        Check.refuses("no births", ELEMENT, () -> x.fashion(0, 1000));
        born(x, 9);
        x.days(5);
        born(x, 8);
        born(x, 7);
        born(x, 8);
        x.days(5);
        born(x, 7);
        born(x, 2);
        Check.due("one day", x.fashion(0, 0), 9);
        Check.due("the most", x.fashion(5, 5), 8);
        Check.due("of several the lowest", x.fashion(0, 10), 7);
        Check.due("of several the lowest", x.fashion(6, 10), 2);
        Check.due("from far ahead", x.fashion(Integer.MIN_VALUE, 4), 9);
        Check.due("to far behind", x.fashion(1, Integer.MAX_VALUE), 7);
        Check.refuses("between", ELEMENT, () -> x.fashion(1, 4));
        Check.refuses("behind", ELEMENT, () -> x.fashion(11, 11));
        Check.refuses("backwards", ARGUMENT, () -> x.fashion(1, 0));
        x.ban(0, 9, true);
        Check.refuses("refused", SUPPORT, () -> born(x, 9));
        Check.refuses("refused", SUPPORT, () -> born(x, 9));
        Check.due("refused ones do not count", x.fashion(10, 10), 2);
        x.die(1);
        x.petition(3, 0, 'u');
        x.days(30);
        x.decide(0);
        Check.due("the dead and the renamed do", x.fashion(5, 5), 8);
        born(x, 15);
        Check.due("name 15", x.fashion(40, 40), 15);
        born(x, 0);
        Check.due("name 0", x.fashion(40, 40), 0);
    }

    private static void addRule() {
        Check.promise(26, "addRule");
        Namebearers x = new Namebearers();
        char[][] wrong = {{'A', ' ', ' ', ' '}, {' ', ' ', ' ', ' '}, {'-', ' ', ' ', ' '}, {'a', 'B', ' ', ' '},
            {'a', '-', ' ', ' '}, {'a', ' ', '-', ' '}, {'a', ' ', 'C', ' '}, {'a', ' ', 'b', '-'},
            {'a', ' ', ' ', 'b'}, {'a' - 1, ' ', ' ', ' '}, {'z' + 1, ' ', ' ', ' '}, {'a', ' ', 'b', 'z' + 1}};
        for (char[] rule : wrong) {
            Check.refuses(new String(rule), ARGUMENT, () -> x.addRule(0, rule[0], rule[1], rule[2], rule[3]));
        }
        Check.refuses("clerk -1", ARGUMENT, () -> x.addRule(-1, 'a', ' ', ' ', ' '));
        Check.refuses("clerk 4", ARGUMENT, () -> x.addRule(4, 'a', ' ', ' ', ' '));
        for (int i = 1; i <= 8; i++) {
            Check.due("rule " + i, x.addRule(0, 'a', 'z', 'z', 'a'), i);
        }
        Check.refuses("a ninth", STATE, () -> x.addRule(0, 'a', ' ', ' ', ' '));
        Check.refuses("a ninth that is wrong", ARGUMENT, () -> x.addRule(0, 'A', ' ', ' ', ' '));
        Check.due("another clerk", x.addRule(1, 'z', ' ', ' ', ' '), 1);
    }

    /** What a clerk makes of the given name of somebody. */
    private static String heard(int given, String... rules) {
        Namebearers x = new Namebearers();
        born(x, given);
        for (String rule : rules) {
            x.addRule(1, rule.charAt(0), rule.charAt(1), rule.charAt(2), rule.charAt(3));
        }
        x.record(0, 1, 0);
        x.move(0, 1, 1);
        Check.due("a move writes as a record", Check.name(x, 0, 'g'), Check.written(x, 0, false));
        return Check.written(x, 0, false);
    }

    private static void howClerksWrite() {
        Check.promise(26, "addRule, how clerks write");
        Check.due("no rule", heard(7), "hanna");
        Check.due("one to one", heard(7, "n m "), "hamma");
        Check.due("one to none", heard(7, "a   "), "hnn");
        Check.due("one to two", heard(7, "a ou"), "hounnou");
        Check.due("two to one", heard(7, "nnn "), "hana");
        Check.due("two to two", heard(7, "anna"), "hnana");
        Check.due("two to none", heard(7, "nn  "), "haa");
        Check.due("the first rule", heard(7, "n m ", "nnx "), "hamma");
        Check.due("the first rule", heard(7, "nnx ", "n m "), "haxa");
        Check.due("the first rule whose letters are there", heard(7, "naxx", "n m "), "hamxx");
        Check.due("it goes on behind them", heard(7, "a n ", "nna "), "hnan");
        Check.due("a pair that the end cuts off", heard(7, "aax ", "a   "), "hnn");
        Check.due("all to none", heard(0, "a   ", "n   "), "");
        Check.due("from the left", heard(0, "ann ", "nnb "), "nna");
    }

    private static void dropRules() {
        Check.promise(27, "dropRules");
        Namebearers x = new Namebearers();
        born(x, 0);
        x.addRule(2, 'a', ' ', 'o', ' ');
        x.addRule(2, 'n', ' ', 'o', ' ');
        x.addRule(3, 'n', ' ', 'm', ' ');
        Check.due("two", x.dropRules(2), 2);
        Check.due("none", x.dropRules(2), 0);
        x.record(0, 2, 0);
        x.record(0, 3, 0);
        Check.due("as it is", Check.written(x, 0, false), "anna");
        Check.due("another clerk", Check.written(x, 1, false), "amma");
        Check.due("anew", x.addRule(2, 'a', ' ', 'o', ' '), 1);
        Check.refuses("-1", ARGUMENT, () -> x.dropRules(-1));
        Check.refuses("4", ARGUMENT, () -> x.dropRules(4));
    }

    private static void setLimit() {
        Check.promise(28, "setLimit");
        Namebearers x = new Namebearers();
        born(x, 6);
        Check.due("to 1", x.setLimit(0, 1), 24);
        Check.due("to 6", x.setLimit(0, 6), 1);
        x.addRule(0, 'g', ' ', 'x', 'y');
        x.record(0, 0, 0);
        Check.due("cut at the end", Check.written(x, 0, false), "xyunna");
        Check.refuses("0", ARGUMENT, () -> x.setLimit(0, 0));
        Check.refuses("25", ARGUMENT, () -> x.setLimit(0, 25));
        Check.refuses("-1", ARGUMENT, () -> x.setLimit(0, -1));
        Check.refuses("clerk -1", ARGUMENT, () -> x.setLimit(-1, 5));
        Check.refuses("clerk 4", ARGUMENT, () -> x.setLimit(4, 5));
        Check.due("to 24", x.setLimit(0, 24), 6);
        Check.due("another clerk", x.setLimit(1, 24), 24);
        x.dropRules(0);
        for (char letter : "guna".toCharArray()) {
            x.addRule(0, letter, ' ', 'w', 'w');
        }
        x.addRule(0, 'w', ' ', 'v', 'v');
        x.move(0, 1, 0);
        x.move(0, 2, 0);
        Check.due("24 at the most", x.length(0, 'g'), 21);
        x.move(0, 3, 0);
        x.addRule(0, 'v', ' ', 'w', 'w');
        x.move(0, 0, 0);
        Check.due("24 at the most", x.length(0, 'g'), 24);
    }

    private static void petition() {
        Check.promise(29, "petition");
        Namebearers x = new Namebearers();
        Check.refuses("nobody", BOUNDS, () -> x.petition(0, 16, 'x'));
        born(x, 0);
        born(x, 0);
        x.die(1);
        Check.refuses("name -1", ARGUMENT, () -> x.petition(0, -1, 'm'));
        Check.refuses("name 16", ARGUMENT, () -> x.petition(0, 16, 'm'));
        for (char wrong : new char[] {'M', 'x', ' ', (char) 0}) {
            Check.refuses("ground " + wrong, ARGUMENT, () -> x.petition(0, 0, wrong));
        }
        Check.refuses("person 2", BOUNDS, () -> x.petition(2, 0, 'm'));
        Check.refuses("person -1", BOUNDS, () -> x.petition(-1, 0, 'm'));
        Check.refuses("dead", SUPPORT, () -> x.petition(1, 0, 'm'));
        Check.refuses("dead and no such ground", ARGUMENT, () -> x.petition(1, 0, 'x'));
        for (int i = 0; i < 20; i++) {
            Check.due("petition", x.petition(0, i % 16, "mus".charAt(i % 3)), i);
        }
        Check.refuses("a 21st", STATE, () -> x.petition(0, 1, 'm'));
        Check.refuses("a 21st of a dead one", SUPPORT, () -> x.petition(1, 1, 'm'));
        Check.due("nothing is another one yet", Check.name(x, 0, 'g'), "anna");
    }

    private static void oppose() {
        Check.promise(30, "oppose");
        Namebearers x = new Namebearers();
        born(x, 0);
        born(x, 1);
        born(x, 1);
        born(x, 1);
        born(x, 2);
        x.birth(-1, -1, 'm', 1, 1);
        x.die(3);
        Check.refuses("no such petition", BOUNDS, () -> x.oppose(0, 1));
        x.petition(0, 1, 'u');
        x.petition(0, 1, 's');
        x.petition(0, 1, 'm');
        x.petition(1, 1, 'm');
        Check.refuses("no such person", BOUNDS, () -> x.oppose(0, 6));
        Check.refuses("no such person", BOUNDS, () -> x.oppose(0, -1));
        Check.refuses("no such petition", BOUNDS, () -> x.oppose(-1, 1));
        Check.due("first", x.oppose(0, 1), 1);
        Check.due("second", x.oppose(0, 2), 2);
        Check.refuses("again", STATE, () -> x.oppose(0, 1));
        Check.refuses("dead", SUPPORT, () -> x.oppose(0, 3));
        Check.refuses("another name", SUPPORT, () -> x.oppose(0, 4));
        Check.refuses("another land", SUPPORT, () -> x.oppose(0, 5));
        Check.refuses("for safety", SUPPORT, () -> x.oppose(1, 1));
        Check.refuses("who asks", SUPPORT, () -> x.oppose(0, 0));
        Check.refuses("who asks and has the name", SUPPORT, () -> x.oppose(3, 1));
        x.move(5, 0, 0);
        Check.due("who came", x.oppose(0, 5), 3);
        x.setLimit(1, 2);
        x.move(2, 2, 1);
        x.move(2, 0, 0);
        Check.refuses("has this name no more, though one opposes already", SUPPORT, () -> x.oppose(0, 2));
        x.days(30);
        Check.isFalse("decided", x.decide(0));
        Check.refuses("decided", SUPPORT, () -> x.oppose(0, 1));
        Check.refuses("decided", SUPPORT, () -> x.oppose(0, 5));
        Check.due("not yet decided", x.oppose(2, 5), 1);
    }

    private static void decide() {
        Check.promise(31, "decide");
        Namebearers x = new Namebearers();
        Check.refuses("none", BOUNDS, () -> x.decide(0));
        born(x, 0);
        born(x, 1);
        born(x, 2);
        x.days(7);
        x.petition(0, 5, 'u');
        x.petition(0, 6, 'm');
        x.petition(1, 2, 'm');
        x.petition(2, 8, 'm');
        Check.refuses("at once", SUPPORT, () -> x.decide(0));
        x.oppose(2, 2);
        x.die(2);
        x.ban(0, 6, true);
        x.ban(1, 5, true);
        x.days(29);
        Check.refuses("29 days", SUPPORT, () -> x.decide(0));
        x.days(1);
        Check.isTrue("granted", x.decide(0));
        Check.due("the name", Check.name(x, 0, 'g'), "freya");
        Check.isFalse("not sealed", x.isSealed(0));
        Check.refuses("again", SUPPORT, () -> x.decide(0));
        Check.isFalse("banned", x.decide(1));
        Check.due("the name", Check.name(x, 0, 'g'), "freya");
        Check.refuses("again, though not granted", SUPPORT, () -> x.decide(1));
        Check.isFalse("opposed by one who is dead now", x.decide(2));
        Check.due("the name", Check.name(x, 1, 'g'), "bjorn");
        Check.isFalse("dead", x.decide(3));
        Check.due("the name", Check.name(x, 2, 'g'), "carla");
        Check.refuses("-1", BOUNDS, () -> x.decide(-1));
        Check.refuses("4", BOUNDS, () -> x.decide(4));
        x.petition(1, 6, 'u');
        x.petition(1, 5, 'u');
        x.move(1, 1, 0);
        x.days(100);
        Check.isTrue("banned where the person was", x.decide(4));
        Check.isFalse("banned where the person is", x.decide(5));
        Check.due("the name", Check.name(x, 1, 'g'), "gunnar");
    }

    private static void decideForSafety() {
        Check.promise(31, "decide, for safety");
        Namebearers x = new Namebearers();
        born(x, 0);
        born(x, 1);
        born(x, 2);
        x.petition(0, 0, 's');
        x.petition(1, 3, 's');
        x.petition(2, 3, 's');
        x.ban(0, 3, true);
        x.days(30);
        Check.isTrue("the same name", x.decide(0));
        Check.isTrue("sealed", x.isSealed(0));
        Check.due("no change", x.changes(0), 0);
        Check.isFalse("banned", x.decide(1));
        Check.isFalse("not sealed", x.isSealed(1));
        x.ban(0, 3, false);
        x.die(2);
        Check.isFalse("dead", x.decide(2));
        Check.isFalse("not sealed", x.isSealed(2));
    }
}
