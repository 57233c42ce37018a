import java.util.function.BooleanSupplier;

/** Promises 40 to 53: prices, links, clusters and figures. */
public final class LinksTest {
    private static final Class<IllegalArgumentException> ARGUMENT = IllegalArgumentException.class;
    private static final Class<IndexOutOfBoundsException> BOUNDS = IndexOutOfBoundsException.class;
    private static final Class<ArithmeticException> ARITHMETIC = ArithmeticException.class;

    public static void main(String[] args) {
        setPrice();
        price();
        priceOfDays();
        distance();
        isLinked();
        wrongRecords();
        clusters();
        clustersFollow();
        doubts();
        wrongAndMissed();
        print();
        closedShare();
        meanPrice();
        isSound();
        Check.finish();
    }

    private static Namebearers withPersons(int... given) {
        Namebearers x = new Namebearers();
        for (int name : given) {
            x.birth(-1, -1, 'f', name, 0);
        }
        return x;
    }

    private static void seal(Namebearers x, int person, int petition) {
        x.petition(person, 15, 's');
        x.days(30);
        Check.isTrue("decide", x.decide(petition));
    }

    private static void setPrice() {
        Check.promise(40, "setPrice");
        Namebearers x = new Namebearers();
        Check.due("to 0", x.setPrice(0), 12);
        Check.due("to 99", x.setPrice(99), 0);
        Check.refuses("100", ARGUMENT, () -> x.setPrice(100));
        Check.refuses("-1", ARGUMENT, () -> x.setPrice(-1));
        Check.due("still", x.setPrice(5), 99);
    }

    private static void price() {
        Check.promise(41, "price");
        Namebearers x = withPersons(0, 7);
        x.birth(0, -1, 'm', 3, 0);
        x.birth(1, -1, 'f', 3, 0);
        x.record(0, 0, 0);
        x.record(1, 0, 1);
        x.record(2, 0, 2);
        x.record(3, 0, 3);
        Check.due("anna, hanna", x.price(0, 1), 3);
        Check.due("the other way", x.price(1, 0), 3);
        Check.due("the same record is of one book and day", x.price(0, 0), 30);
        Check.due("david annason, david hannadot, unlike sexes", x.price(2, 3), 2 * 3 + 50);
        Check.due("anna, david annason, unlike sexes", x.price(0, 2), 3 * 4 + 2 * 7 + 50);
        x.record(1, 0, 0);
        Check.due("one book and day", x.price(0, 4), 33);
        x.days(10);
        x.record(1, 0, 0);
        Check.due("one book, another day", x.price(0, 5), 4);
        seal(x, 0, 0);
        Check.due("closed", x.price(0, 4), 33);
    }

    private static void priceOfDays() {
        Check.promise(41, "price, days between");
        Namebearers x = withPersons(0);
        int[] days = {9, 1, 9, 171, 9, 1, 9, 1, 999};
        int[] due = {0, 1, 1, 19, 19, 20, 20, 20, 20};
        x.days(500);
        x.record(0, 0, 0);
        for (int i = 0; i < days.length; i++) {
            x.days(days[i]);
            x.record(0, 0, 0);
            Check.due("record " + (i + 1), x.price(0, i + 1), due[i]);
            Check.due("record " + (i + 1), x.price(i + 1, 0), due[i]);
        }
    }

    private static void distance() {
        Check.promise(42, "distance");
        Namebearers x = withPersons(0, 7, 11, 12, 3);
        x.birth(0, -1, 'm', 3, 0);
        x.birth(1, -1, 'm', 3, 0);
        for (int person = 0; person < 7; person++) {
            x.record(person, 0, 0);
        }
        Check.due("one put in", x.distance(0, 1, false), 1);
        Check.due("one taken out", x.distance(1, 0, false), 1);
        Check.due("lars, maria", x.distance(2, 3, false), 3);
        Check.due("maria, david", x.distance(3, 4, false), 3);
        Check.due("anna, maria", x.distance(0, 3, false), 3);
        Check.due("the same record", x.distance(0, 0, false), 0);
        Check.due("alike", x.distance(5, 6, false), 0);
        Check.due("second names", x.distance(5, 6, true), 1);
        Check.due("to an empty one", x.distance(0, 5, true), 7);
        Check.due("to an empty one", x.distance(0, 6, true), 8);
        Check.due("anna, david", x.distance(0, 6, false), 4);
        Check.due("from an empty one", x.distance(5, 0, true), 7);
        Check.due("both empty", x.distance(0, 1, true), 0);
        x.slip(1, false, 0, 'a');
        Check.due("behind a slip", x.distance(0, 1, false), 1);
        x.slip(0, false, 0, 'n');
        Check.due("behind another", x.distance(0, 1, false), 2);
        x.slip(0, false, 3, 'o');
        Check.due("nnno, aanna", x.distance(0, 1, false), 3);
        x.slip(5, true, 0, 'h');
        Check.due("second names", x.distance(5, 6, true), 1);
        Check.due("of 24 and none", longest(), 24);
    }

    private static int longest() {
        Namebearers x = withPersons(6);
        for (char letter : "guna".toCharArray()) {
            x.addRule(0, letter, ' ', 'w', 'w');
        }
        x.addRule(1, 'w', ' ', 'u', 'g');
        x.addRule(1, 'r', ' ', 'u', 'g');
        x.addRule(2, 'u', ' ', ' ', ' ');
        x.addRule(2, 'g', ' ', ' ', ' ');
        x.move(0, 1, 0);
        x.move(0, 2, 1);
        x.move(0, 3, 0);
        x.record(0, 0, 0);
        x.move(0, 0, 1);
        Check.due("24 letters", x.length(0, 'g'), 24);
        x.move(0, 1, 2);
        x.record(0, 0, 0);
        return x.distance(0, 1, false);
    }

    private static void isLinked() {
        Check.promise(43, "isLinked");
        Namebearers x = withPersons(0, 0, 7);
        x.record(0, 0, 0);
        x.record(1, 0, 1);
        x.record(2, 0, 2);
        x.record(1, 0, 0);
        Check.isTrue("keys of given names alike", x.isLinked(0, 1));
        Check.isTrue("the other way", x.isLinked(1, 0));
        Check.isFalse("the same", x.isLinked(0, 0));
        Check.isTrue("keys of empty second names alike", x.isLinked(0, 2));
        Check.isFalse("one book and day cost 30", x.isLinked(0, 3));
        x.setPrice(30);
        Check.isTrue("a limit that suffices", x.isLinked(0, 3));
        x.setPrice(29);
        Check.isFalse("a limit that does not", x.isLinked(0, 3));
        x.setPrice(0);
        Check.isTrue("0", x.isLinked(0, 1));
        x.slip(1, false, 3, 'e');
        Check.isFalse("3", x.isLinked(0, 1));
        x.setPrice(3);
        Check.isTrue("3", x.isLinked(0, 1));
        x.setPrice(99);
        seal(x, 2, 0);
        Check.isFalse("closed", x.isLinked(0, 2));
        Check.isFalse("closed", x.isLinked(2, 0));
        Check.isFalse("both closed", bothClosed().getAsBoolean());
        keysMatter();
    }

    private static BooleanSupplier bothClosed() {
        Namebearers x = withPersons(0);
        x.record(0, 0, 0);
        x.record(0, 0, 1);
        seal(x, 0, 0);
        return () -> x.isLinked(0, 1);
    }

    private static void keysMatter() {
        Namebearers x = new Namebearers();
        x.birth(-1, -1, 'f', 0, 2);
        x.record(0, 0, 0);
        x.record(0, 0, 1);
        x.slip(1, false, 0, 'e');
        Check.isTrue("keys of second names alike", x.isLinked(0, 1));
        x.slip(1, true, 0, 'm');
        Check.due("cheap enough", x.price(0, 1), 5);
        Check.isFalse("no keys alike", x.isLinked(0, 1));
        x.slip(1, false, 0, 'a');
        Check.isTrue("keys of given names alike", x.isLinked(0, 1));
    }

    private static void wrongRecords() {
        Namebearers x = withPersons(0);
        Check.promise(44, "no records");
        Check.refuses("cluster(0)", BOUNDS, () -> x.cluster(0));
        Check.refuses("clusterAnew(0)", BOUNDS, () -> x.clusterAnew(0));
        x.record(0, 0, 0);
        for (int wrong : new int[] {-1, 1, 40, Integer.MAX_VALUE, Integer.MIN_VALUE}) {
            Check.promise(41, "price, no such record");
            Check.refuses("price(" + wrong + ", 0)", BOUNDS, () -> x.price(wrong, 0));
            Check.refuses("price(0, " + wrong + ")", BOUNDS, () -> x.price(0, wrong));
            Check.promise(42, "distance, no such record");
            Check.refuses("distance(" + wrong + ", 0)", BOUNDS, () -> x.distance(wrong, 0, true));
            Check.refuses("distance(0, " + wrong + ")", BOUNDS, () -> x.distance(0, wrong, false));
            Check.promise(43, "isLinked, no such record");
            Check.refuses("isLinked(" + wrong + ", 0)", BOUNDS, () -> x.isLinked(wrong, 0));
            Check.refuses("isLinked(0, " + wrong + ")", BOUNDS, () -> x.isLinked(0, wrong));
            Check.refuses("isLinked twice " + wrong, BOUNDS, () -> x.isLinked(wrong, wrong));
            Check.promise(44, "cluster, no such record");
            Check.refuses("cluster(" + wrong + ")", BOUNDS, () -> x.cluster(wrong));
            Check.promise(46, "clusterAnew, no such record");
            Check.refuses("clusterAnew(" + wrong + ")", BOUNDS, () -> x.clusterAnew(wrong));
        }
    }

    private static void checkClusters(Namebearers x, int count, int... lowest) {
        for (int record = 0; record < lowest.length; record++) {
            Check.due("cluster(" + record + ")", x.cluster(record), lowest[record]);
            Check.due("clusterAnew(" + record + ")", x.clusterAnew(record), lowest[record]);
        }
        Check.due("clusters()", x.clusters(), count);
        Check.isTrue("isSound()", x.isSound());
    }

    private static void clusters() {
        Check.promise(44, "cluster, clusters (45), clusterAnew (46)");
        Namebearers x = withPersons(9, 0, 6);
        checkClusters(x, 0);
        x.setPrice(3);
        x.record(0, 0, 0);
        x.record(1, 0, 0);
        x.record(0, 0, 1);
        x.record(0, 0, 2);
        x.record(2, 0, 3);
        x.slip(0, false, 2, 'k');
        x.slip(3, false, 2, 's');
        x.slip(3, false, 1, 'z');
        Check.isFalse("0 and 3", x.isLinked(0, 3));
        x.slip(2, false, 2, 'z');
        Check.isTrue("0 and 2", x.isLinked(0, 2));
        Check.isFalse("2 and 3", x.isLinked(2, 3));
        checkClusters(x, 4, 0, 1, 0, 3, 4);
        x.slip(3, false, 1, 'o');
        Check.isTrue("2 and 3", x.isLinked(2, 3));
        checkClusters(x, 3, 0, 1, 0, 0, 4);
        x.days(10);
        x.record(0, 0, 0);
        x.slip(5, false, 2, 'k');
        Check.isTrue("0 and 5", x.isLinked(0, 5));
        checkClusters(x, 3, 0, 1, 0, 0, 4, 0);
        x.slip(0, false, 0, 'z');
        Check.isFalse("0 and 5", x.isLinked(0, 5));
        byOthers();
    }

    /** A chain in which the lowest record is linked to the others by higher ones alone. */
    private static void byOthers() {
        Namebearers x = withPersons(6);
        x.setPrice(4);
        for (int record = 0; record < 4; record++) {
            x.record(0, 0, record);
        }
        String[] texts = {"wunnar", "wuuuur", "wuunar", "wuuuar"};
        for (int record = 0; record < 4; record++) {
            for (int i = 0; i < 6; i++) {
                x.slip(record, false, i, texts[record].charAt(i));
            }
        }
        Check.isFalse("0 and 1", x.isLinked(0, 1));
        Check.isTrue("0 and 2", x.isLinked(0, 2));
        Check.isTrue("2 and 3", x.isLinked(2, 3));
        Check.isTrue("1 and 3", x.isLinked(1, 3));
        checkClusters(x, 1, 0, 0, 0, 0);
        x.slip(2, false, 0, 'z');
        x.slip(2, false, 1, 'z');
        x.slip(2, false, 2, 'z');
        checkClusters(x, 3, 0, 1, 2, 1);
    }

    private static void clustersFollow() {
        Check.promise(45, "clusters, as limits, seals and records change");
        Namebearers x = withPersons(0, 0, 0);
        for (int i = 0; i < 3; i++) {
            x.record(i, 0, i);
        }
        checkClusters(x, 1, 0, 0, 0);
        x.setPrice(30);
        x.record(0, 0, 0);
        checkClusters(x, 1, 0, 0, 0, 0);
        x.setPrice(0);
        x.slip(1, false, 0, 'e');
        Check.due("clusters() first", x.clusters(), 2);
        checkClusters(x, 2, 0, 1, 0, 0);
        x.setPrice(12);
        checkClusters(x, 1, 0, 0, 0, 0);
        seal(x, 0, 0);
        checkClusters(x, 1, 0, 1, 1, 3);
        seal(x, 1, 1);
        checkClusters(x, 1, 0, 1, 2, 3);
        seal(x, 2, 2);
        checkClusters(x, 0, 0, 1, 2, 3);
    }

    private static void doubts() {
        Check.promise(47, "doubts");
        Namebearers x = withPersons(0, 1);
        Check.due("none", x.doubts(), 0);
        x.birth(-1, -1, 'm', 0, 0);
        x.record(0, 0, 0);
        x.record(0, 0, 0);
        Check.due("of one book and day, but apart", x.doubts(), 0);
        x.record(0, 0, 1);
        Check.due("joined by a third one", x.doubts(), 1);
        x.setPrice(2);
        x.record(1, 0, 2);
        x.record(1, 0, 2);
        Check.due("apart again", x.doubts(), 1);
        x.record(1, 0, 3);
        Check.due("two", x.doubts(), 2);
        seal(x, 1, 0);
        Check.due("closed", x.doubts(), 1);
        doubtsByPrice();
        manyDoubts();
    }

    private static void manyDoubts() {
        Namebearers x = new Namebearers();
        for (int i = 0; i < 20; i++) {
            x.birth(-1, -1, "mf".charAt(i % 2), i % 16, 0);
        }
        for (int i = 0; i < 40; i++) {
            x.record(i / 2, 0, 0);
            x.slip(i, false, 0, (char) ('a' + i / 2));
            x.slip(i, false, 1, (char) ('a' + i / 2));
            x.slip(i, false, 2, (char) ('z' - i / 2));
        }
        x.setPrice(30);
        Check.due("as many as clusters", x.clusters(), 20);
        Check.due("twenty", x.doubts(), 20);
    }

    private static void doubtsByPrice() {
        Namebearers x = withPersons(0);
        x.birth(-1, -1, 'm', 0, 0);
        x.record(0, 0, 0);
        x.record(1, 0, 1);
        x.setPrice(49);
        Check.due("apart", x.doubts(), 0);
        x.setPrice(50);
        Check.due("a price of 50", x.doubts(), 1);
        Namebearers y = withPersons(6);
        y.setPrice(33);
        for (int record = 0; record < 3; record++) {
            y.record(0, 0, record);
        }
        for (int i = 0; i < 6; i++) {
            y.slip(2, false, i, 'e');
        }
        y.slip(1, false, 0, 'e');
        Check.due("18 days' worth", y.doubts(), 0);
        y.days(999);
        y.record(0, 0, 0);
        y.slip(2, false, 0, 'o');
        Check.due("38", y.price(2, 3), 38);
        Check.due("no pair of 50", y.doubts(), 0);
        y.setPrice(60);
        y.days(999);
        y.record(0, 0, 0);
        y.slip(4, false, 0, 'x');
        Check.due("no pair of 50 yet", y.doubts(), 0);
        Check.due("one cluster", y.clusters(), 1);
    }

    private static void wrongAndMissed() {
        Check.promise(48, "wrong and missed (49)");
        Namebearers x = withPersons(0, 7, 6);
        Check.due("wrong, none", x.wrong(), 0);
        Check.due("missed, none", x.missed(), 0);
        x.setPrice(3);
        x.record(0, 0, 0);
        x.record(1, 0, 1);
        Check.due("wrong", x.wrong(), 1);
        x.record(0, 0, 2);
        Check.due("wrong", x.wrong(), 2);
        Check.due("missed", x.missed(), 0);
        x.record(1, 0, 1);
        Check.due("wrong, by others too", x.wrong(), 4);
        x.record(2, 0, 0);
        x.record(2, 0, 0);
        x.record(2, 0, 0);
        Check.due("missed", x.missed(), 3);
        Check.due("wrong", x.wrong(), 4);
        x.slip(2, false, 0, 'z');
        x.slip(2, false, 1, 'z');
        Check.due("missed, one behind a slip", x.missed(), 4);
        Check.due("wrong, one behind a slip", x.wrong(), 2);
        checkClusters(x, 5, 0, 0, 2, 0, 4, 5, 6);
        seal(x, 2, 0);
        Check.due("missed, closed left out", x.missed(), 1);
        seal(x, 1, 1);
        Check.due("missed, closed left out", x.missed(), 1);
        Check.due("wrong, closed left out", x.wrong(), 0);
        Check.isTrue("isSound()", x.isSound());
    }

    private static long figureOf(String... names) {
        long figure = 7;
        for (String name : names) {
            for (char sign : name.toCharArray()) {
                figure = 31 * figure + sign;
            }
            figure *= 31;
        }
        return figure;
    }

    private static void print() {
        Check.promise(50, "print");
        Namebearers x = new Namebearers();
        Check.due("nobody", x.print(), 7L);
        x.birth(-1, -1, 'f', 15, 0);
        Check.due("pal", x.print(), figureOf("pal"));
        x.birth(0, -1, 'f', 0, 0);
        x.birth(0, -1, 'f', 1, 1);
        x.birth(0, -1, 'f', 2, 2);
        x.deed(1, 2);
        x.tell(0, 1);
        x.tell(2, 1);
        Check.due("all", x.print(), figureOf("pal", "anna paldot", "bjorn", "carla bergbe"));
        x.tell(3, 1);
        x.die(0);
        Check.due("the dead too", x.print(), figureOf("pal", "anna wise paldot", "bjorn", "carla bergbe"));
    }

    private static void closedShare() {
        Check.promise(51, "closedShare");
        Namebearers x = withPersons(0, 1);
        Check.refuses("none", ARITHMETIC, () -> x.closedShare());
        x.record(0, 0, 0);
        x.record(1, 0, 0);
        x.record(1, 0, 0);
        Check.due("0 of 3", x.closedShare(), 0f);
        seal(x, 0, 0);
        Check.due("1 of 3", x.closedShare(), 1f / 3f);
        seal(x, 1, 1);
        Check.due("3 of 3", x.closedShare(), 1f);
    }

    private static void meanPrice() {
        Check.promise(52, "meanPrice");
        Namebearers x = withPersons(0, 7, 7);
        Check.refuses("none", ARITHMETIC, () -> x.meanPrice());
        x.record(0, 0, 0);
        Check.refuses("one", ARITHMETIC, () -> x.meanPrice());
        x.record(1, 0, 1);
        Check.due("one pair", x.meanPrice(), 3.0);
        x.record(2, 0, 2);
        Check.due("three pairs", x.meanPrice(), 2.0);
        x.record(2, 0, 2);
        Check.due("five pairs of six", x.meanPrice(), 9.0 / 5.0);
        x.setPrice(99);
        Check.due("six pairs", x.meanPrice(), 39.0 / 6.0);
        seal(x, 0, 0);
        Check.due("closed left out", x.meanPrice(), 30.0 / 3.0);
    }

    private static void isSound() {
        Check.promise(53, "isSound");
        Namebearers x = withPersons(0);
        Check.isTrue("without records", x.isSound());
        x.birth(-1, -1, 'm', 1, 0);
        for (int land = 0; land < 4; land++) {
            x.birth(0, 1, 'm', 3, land);
            x.birth(0, -1, 'f', 4, land);
        }
        x.setSystem(0, 'd');
        x.days(3);
        x.birth(0, 1, 'm', 3, 0);
        for (int land = 0; land < 4; land++) {
            x.setSystem(land, 'p');
        }
        x.setLimit(0, 2);
        x.move(1, 1, 0);
        Check.isTrue("what they were formed of is another one now", x.isSound());
        x.setMarriage(1, 'h');
        x.marry(1, 0);
        Check.isTrue("changed by marriage", x.isSound());
        for (int record = 0; record < 40; record++) {
            x.record(record % x.persons(), record % 4, record % 3);
        }
        Check.isTrue("with records", x.isSound());
        seal(x, 4, 0);
        Check.isTrue("with closed ones", x.isSound());
        x.setPrice(99);
        Check.isTrue("with another limit", x.isSound());
    }
}
