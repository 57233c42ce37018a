import java.util.NoSuchElementException;

/** Promises 32 to 39: records, slips, keys and their order. */
public final class RecordsTest {
    private static final Class<IllegalArgumentException> ARGUMENT = IllegalArgumentException.class;
    private static final Class<IndexOutOfBoundsException> BOUNDS = IndexOutOfBoundsException.class;
    private static final Class<IllegalStateException> STATE = IllegalStateException.class;
    private static final Class<NoSuchElementException> ELEMENT = NoSuchElementException.class;

    public static void main(String[] args) {
        record();
        recordStays();
        slip();
        written();
        key();
        keyDigits();
        isClosed();
        sorted();
        Check.finish();
    }

    private static Namebearers withPersons(int... given) {
        Namebearers x = new Namebearers();
        for (int name : given) {
            x.birth(-1, -1, 'f', name, 0);
        }
        return x;
    }

    /** Makes the given name of a record another text of the same length. */
    private static void spell(Namebearers x, int record, boolean isSecond, String text) {
        for (int i = 0; i < text.length(); i++) {
            x.slip(record, isSecond, i, text.charAt(i));
        }
    }

    private static void record() {
        Check.promise(32, "record");
        Namebearers x = withPersons(0, 1);
        Check.due("none", x.records(), 0);
        Check.due("first", x.record(0, 0, 0), 0);
        Check.due("second", x.record(0, 3, 3), 1);
        Check.refuses("person -1", BOUNDS, () -> x.record(-1, 0, 0));
        Check.refuses("person 2", BOUNDS, () -> x.record(2, 4, 4));
        Check.refuses("clerk -1", ARGUMENT, () -> x.record(0, -1, 0));
        Check.refuses("clerk 4", ARGUMENT, () -> x.record(0, 4, 0));
        Check.refuses("book -1", ARGUMENT, () -> x.record(0, 0, -1));
        Check.refuses("book 4", ARGUMENT, () -> x.record(0, 0, 4));
        x.die(1);
        Check.due("of a dead one", x.record(1, 0, 0), 2);
        Check.promise(33, "records");
        Check.due("records()", x.records(), 3);
        for (int i = 3; i < 40; i++) {
            Check.due("record", x.record(0, 0, 0), i);
        }
        Check.refuses("a 41st", STATE, () -> x.record(0, 0, 0));
        Check.refuses("a 41st by no clerk", ARGUMENT, () -> x.record(0, 4, 0));
        Check.due("records()", x.records(), 40);
    }

    private static void recordStays() {
        Check.promise(32, "record, what it holds");
        Namebearers x = withPersons(0);
        x.birth(0, -1, 'm', 3, 0);
        x.setLimit(1, 4);
        x.addRule(1, 'd', 'a', 'o', ' ');
        x.record(1, 1, 2);
        Check.due("given", Check.written(x, 0, false), "ovid");
        Check.due("second", Check.written(x, 0, true), "anna");
        x.dropRules(1);
        x.move(1, 3, 1);
        Check.due("given stays", Check.written(x, 0, false), "ovid");
        Check.due("the person", Check.name(x, 1, 'f'), "davi anna");
        x.record(1, 0, 2);
        Check.due("as called now", Check.written(x, 1, false), "davi");
        Check.due("as called now", Check.written(x, 1, true), "anna");
    }

    private static void slip() {
        Check.promise(34, "slip");
        Namebearers x = withPersons(0);
        x.birth(0, -1, 'm', 3, 0);
        Check.refuses("none", BOUNDS, () -> x.slip(0, false, 0, 'A'));
        x.record(1, 0, 0);
        Check.due("given", x.slip(0, false, 0, 't'), 'd');
        Check.due("given", Check.written(x, 0, false), "tavid");
        Check.due("second", x.slip(0, true, 6, 'z'), 'n');
        Check.due("second", Check.written(x, 0, true), "annasoz");
        Check.due("the same letter", x.slip(0, true, 6, 'z'), 'z');
        Check.due("not the person", Check.name(x, 1, 'f'), "david annason");
        Check.due("its key", Check.key(x, 0, false), "t130");
        for (char wrong : new char[] {'A', ' ', '-', 'a' - 1, 'z' + 1, (char) 0}) {
            Check.refuses("letter " + wrong, ARGUMENT, () -> x.slip(0, false, 9, wrong));
        }
        Check.refuses("index 5", ELEMENT, () -> x.slip(0, false, 5, 'a'));
        Check.refuses("index -1", ELEMENT, () -> x.slip(0, false, -1, 'a'));
        Check.refuses("index 7", ELEMENT, () -> x.slip(0, true, 7, 'a'));
        Check.refuses("record -1", BOUNDS, () -> x.slip(-1, false, 0, 'a'));
        Check.refuses("record 1", BOUNDS, () -> x.slip(1, false, 0, 'A'));
        x.record(0, 0, 0);
        Check.refuses("an empty name", ELEMENT, () -> x.slip(1, true, 0, 'a'));
        slipOverDash();
    }

    private static void slipOverDash() {
        Namebearers x = withPersons(0, 1);
        x.setMarriage(0, 'h');
        x.marry(0, 1);
        x.record(0, 0, 0);
        Check.due("a dash", Check.written(x, 0, true), "-");
        Check.due("over a dash", x.slip(0, true, 0, 'b'), '-');
        Check.due("over a dash", Check.written(x, 0, true), "b");
    }

    private static void written() {
        Check.promise(35, "writtenLength and written (36)");
        Namebearers x = withPersons(0, 6);
        x.birth(1, -1, 'm', 3, 0);
        Check.refuses("none", BOUNDS, () -> x.writtenLength(0, false));
        Check.refuses("none", BOUNDS, () -> x.written(0, false, 0));
        x.record(2, 0, 0);
        Check.due("given", x.writtenLength(0, false), 5);
        Check.due("second", x.writtenLength(0, true), 9);
        Check.due("given", x.written(0, false, 4), 'd');
        Check.due("second", x.written(0, true, 0), 'g');
        Check.refuses("index 5", ELEMENT, () -> x.written(0, false, 5));
        Check.refuses("index 9", ELEMENT, () -> x.written(0, true, 9));
        Check.refuses("index -1", ELEMENT, () -> x.written(0, true, -1));
        Check.refuses("record 1", BOUNDS, () -> x.written(1, true, -1));
        Check.refuses("record -1", BOUNDS, () -> x.writtenLength(-1, true));
        x.record(0, 0, 0);
        Check.due("an empty one", x.writtenLength(1, true), 0);
        Check.refuses("of an empty one", ELEMENT, () -> x.written(1, true, 0));
    }

    private static void key() {
        Check.promise(37, "key");
        Namebearers x = withPersons(0, 6);
        Check.refuses("none", BOUNDS, () -> x.key(0, false, 0));
        x.record(1, 0, 0);
        Check.due("given", Check.key(x, 0, false), "g560");
        Check.due("an empty text", Check.key(x, 0, true), "0000");
        Check.refuses("index -1", ARGUMENT, () -> x.key(0, false, -1));
        Check.refuses("index 4", ARGUMENT, () -> x.key(0, false, 4));
        Check.refuses("index 4 of an empty text", ARGUMENT, () -> x.key(0, true, 4));
        Check.refuses("record 1", BOUNDS, () -> x.key(1, false, 4));
        Check.refuses("record -1", BOUNDS, () -> x.key(-1, false, 0));
        String[][] keys = {{"gunnar", "g560"}, {"pfeife", "p100"}, {"abcdef", "a123"}, {"aeiouy", "a000"},
            {"jgkara", "j600"}, {"bbabxa", "b120"}, {"tdlmnr", "t456"}, {"hwhwhw", "h000"}, {"mamama", "m550"},
            {"sahsas", "s220"}, {"ckqxzs", "c000"}, {"acachc", "a222"}, {"almlml", "a454"}};
        for (String[] pair : keys) {
            spell(x, 0, false, pair[0]);
            Check.due(pair[0], Check.key(x, 0, false), pair[1]);
        }
        keyOfDashes();
    }

    private static void keyOfDashes() {
        Namebearers x = withPersons(0);
        x.setMarriage(0, 'h');
        x.birth(-1, -1, 'm', 1, 2);
        x.marry(0, 1);
        x.record(0, 0, 0);
        x.record(1, 0, 0);
        Check.due("a dash first", Check.written(x, 0, true) + Check.key(x, 0, true), "-lundan-453");
        Check.due("a dash last", Check.written(x, 1, true) + Check.key(x, 1, true), "lundan-l535");
        spell(x, 0, true, "l");
        Check.due("over the dash", Check.key(x, 0, true), "l535");
        x.die(1);
        x.birth(-1, -1, 'm', 1, 2);
        x.marry(0, 2);
        x.record(0, 0, 0);
        Check.due("with two dashes", Check.written(x, 2, true), "-lundan-holman");
        spell(x, 2, true, "ann");
        Check.due("a letter for the dash", Check.written(x, 2, true), "annndan-holman");
        x.slip(2, true, 3, 'a');
        x.slip(2, true, 4, 'a');
        x.slip(2, true, 8, 'n');
        Check.due("digits beside a dash", Check.written(x, 2, true) + Check.key(x, 2, true), "annaaan-nolmana555");
    }

    private static void keyDigits() {
        Check.promise(37, "key, each letter");
        String digits = "01230120022455012623010202";
        Namebearers x = withPersons(15);
        x.record(0, 0, 0);
        for (int i = 0; i < 26; i++) {
            spell(x, 0, false, "a" + (char) ('a' + i) + "a");
            String digit = digits.substring(i, i + 1);
            Check.due("" + (char) ('a' + i), Check.key(x, 0, false), "a" + (digit.equals("0") ? "" : digit) + "00"
                    + (digit.equals("0") ? "0" : ""));
        }
    }

    private static void isClosed() {
        Check.promise(38, "isClosed");
        Namebearers x = withPersons(0, 1);
        Check.refuses("none", BOUNDS, () -> x.isClosed(0));
        x.record(0, 0, 0);
        x.record(1, 0, 0);
        x.petition(0, 5, 's');
        Check.isFalse("asked", x.isClosed(0));
        x.days(30);
        x.decide(0);
        x.record(0, 0, 1);
        Check.isTrue("written ahead of it", x.isClosed(0));
        Check.isTrue("written since", x.isClosed(2));
        Check.isFalse("of another one", x.isClosed(1));
        Check.due("a slip is still made", x.slip(0, false, 0, 'o'), 'a');
        Check.refuses("-1", BOUNDS, () -> x.isClosed(-1));
        Check.refuses("3", BOUNDS, () -> x.isClosed(3));
    }

    private static void sorted() {
        Check.promise(39, "sorted");
        Namebearers x = new Namebearers();
        Check.refuses("none", ELEMENT, () -> x.sorted(0));
        x.setMarriage(0, 'h');
        x.birth(-1, -1, 'f', 0, 0);
        x.birth(-1, -1, 'm', 1, 2);
        x.birth(-1, -1, 'm', 9, 2);
        x.birth(-1, -1, 'f', 0, 0);
        x.birth(-1, -1, 'f', 0, 2);
        x.record(1, 0, 0);
        x.record(3, 0, 0);
        x.marry(0, 1);
        x.record(0, 0, 0);
        x.record(1, 0, 0);
        x.record(4, 0, 0);
        x.record(2, 0, 0);
        x.record(2, 0, 0);
        x.record(3, 0, 0);
        x.slip(7, false, 0, 'z');
        x.setLimit(0, 1);
        x.record(3, 0, 0);
        x.setLimit(0, 7);
        x.record(4, 0, 0);
        x.slip(9, true, 0, 'l');
        x.slip(9, true, 1, 'u');
        x.slip(9, true, 2, 'n');
        x.slip(9, true, 3, 'd');
        x.slip(9, true, 4, 'a');
        x.slip(9, true, 5, 'n');
        // Seconds: 8, 1, 7 empty (a, anna, znna); 2 -lundan; 4 dahlan; 5, 6 holman; 9 lundan (anna), 0 lundan; 3 lundan-
        int[] order = {8, 1, 7, 2, 4, 5, 6, 9, 0, 3};
        for (int i = 0; i < order.length; i++) {
            Check.due("sorted(" + i + ")", x.sorted(i), order[i]);
        }
        x.slip(3, true, 6, 'a');
        x.slip(0, true, 5, 'z');
        Check.due("a letter behind a shorter one", x.sorted(8), 3);
        Check.due("a later letter", x.sorted(9), 0);
        Check.refuses("-1", ELEMENT, () -> x.sorted(-1));
        Check.refuses("10", ELEMENT, () -> x.sorted(10));
    }
}
