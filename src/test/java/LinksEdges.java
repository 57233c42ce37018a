/** Promises 40 to 53, each row of the document at its edges. */
final class LinksEdges {
    private static final String NO_RECORD = "Throws `IndexOutOfBoundsException` if there is no such record";
    private static final String EITHER = NO_RECORD + ", for either";
    private static final String RECORD = "`record`: the number of the record";
    private static final String ONE = "`one`: the number of a record";
    private static final String OTHER = "`other`: the number of another one, or the same";

    /** Persons 0 anna, 1 hanna, 2 anna, without second names; records 0 to 2 of them in the books 0 to 2. */
    private static final String THREE_BOOKS = """
        birth(-1, -1, 'f', 0, 0)
        birth(-1, -1, 'f', 7, 0)
        birth(-1, -1, 'f', 0, 0)
        record(0, 0, 0)
        record(1, 0, 1)
        record(2, 0, 2)
        """;

    private LinksEdges() {
    }

    static void all() {
        promise40();
        promise41();
        promise42();
        promise43();
        promise44();
        promise45();
        promise46();
        promise47();
        promise48();
        promise49();
        promise50();
        promise51();
        promise52();
        promise53();
    }

    private static String sealed(int person, int petition) {
        return "petition(" + person + ", 15, 's') -> " + petition + "\ndays(30)\ndecide(" + petition + ") -> true\n";
    }

    private static void promise40() {
        Runs.due(40, "Sets the limit of prices.", THREE_BOOKS + """
            price(0, 1) -> 3
            isLinked(0, 1) -> true
            setPrice(2)
            isLinked(0, 1) -> false
            setPrice(3)
            isLinked(0, 1) -> true
            setPrice(0)
            isLinked(0, 1) -> false
            isLinked(0, 2) -> true
            clusters() -> 2
            setPrice(3)
            clusters() -> 1
            """);
        Runs.range(40, "the limit, 0 to 99", "", "setPrice(%)", 0, 99, Runs.ARGUMENT);
        Runs.due(40, "Returns the one before.", """
            setPrice(0) -> 12
            setPrice(99) -> 0
            setPrice(99) -> 99
            setPrice(100) -> throws.IllegalArgumentException
            setPrice(12) -> 99
            """);
        Runs.due(40, "if it is out of range", """
            setPrice(-1) -> throws.IllegalArgumentException
            setPrice(100) -> throws.IllegalArgumentException
            setPrice(MIN) -> throws.IllegalArgumentException
            setPrice(MAX) -> throws.IllegalArgumentException
            setPrice(12) -> 12
            """);
    }

    private static void promise41() {
        Runs.due(41, "Returns the price of two records, closed or not.", THREE_BOOKS + """
            price(0, 1) -> 3
            """ + sealed(0, 0) + """
            price(0, 1) -> 3
            price(1, 0) -> 3
            record(0, 0, 2)
            price(0, 3) -> 15             // anna, pal: 3 times 4, and 3 for 30 days
            isClosed(3) -> true
            price(3, 3) -> 30
            """);
        Runs.records(41, ONE, "price(%, 0)");
        Runs.records(41, OTHER, "price(0, %)");
        Runs.due(41, OTHER, THREE_BOOKS + """
            price(0, 0) -> 30
            price(1, 1) -> 30
            price(0, 2) -> 0
            """);
        Runs.due(41, "Returns the price.", """
            birth(-1, -1, 'f', 0, 0)
            birth(-1, -1, 'm', 1, 0)
            birth(0, -1, 'm', 3, 0)
            addRule(1, 'a', ' ', 'a', 'a')
            addRule(1, 'n', ' ', 'n', 'n')
            move(0, 1, 1)
            move(0, 2, 1)
            addRule(2, 'a', ' ', ' ', ' ')
            addRule(2, 'n', ' ', ' ', ' ')
            record(0, 1, 0)
            record(1, 2, 0)
            record(2, 0, 0)
            price(0, 1) -> 152            // 3 times 24 letters, unlike sexes, one book and day
            price(1, 0) -> 152
            price(0, 2) -> 163            // 3 times 23, 2 times 7, unlike sexes, one book and day
            price(1, 2) -> 59             // bjor, david annason
            days(999)
            record(2, 0, 0)
            price(0, 3) -> 153            // 20 for the days
            """);
        Runs.due(41, EITHER, THREE_BOOKS + """
            price(0, 3) -> throws.IndexOutOfBoundsException
            price(3, 0) -> throws.IndexOutOfBoundsException
            price(3, 3) -> throws.IndexOutOfBoundsException
            price(-1, 0) -> throws.IndexOutOfBoundsException
            price(0, -1) -> throws.IndexOutOfBoundsException
            price(MIN, 0) -> throws.IndexOutOfBoundsException
            price(0, MAX) -> throws.IndexOutOfBoundsException
            """);
    }

    private static void promise42() {
        Runs.due(42, "Returns a distance.", THREE_BOOKS + """
            distance(0, 1, false) -> 1
            distance(0, 2, false) -> 0
            slip(0, false, 0, 'z')
            distance(0, 1, false) -> 2
            distance(0, 2, false) -> 1
            """);
        Runs.records(42, ONE, "distance(%, 0, false)");
        Runs.records(42, OTHER, "distance(0, %, true)");
        Runs.due(42, OTHER, THREE_BOOKS + """
            distance(0, 0, false) -> 0
            distance(1, 1, true) -> 0
            """);
        Runs.due(42, "`isSecond`: whether second names are meant", """
            birth(-1, -1, 'f', 0, 0)
            birth(0, -1, 'm', 3, 0)
            birth(0, -1, 'f', 3, 0)
            3 x record(%, 0, 0)
            distance(1, 2, true) -> 2      // annason, annadot
            distance(1, 2, false) -> 0
            distance(0, 1, true) -> 7
            distance(0, 1, false) -> 4
            distance(0, 0, true) -> 0
            """);
        Runs.due(42, "Returns the number of letters.", """
            birth(-1, -1, 'f', 0, 0)
            addRule(1, 'a', ' ', ' ', ' ')
            addRule(1, 'n', ' ', ' ', ' ')
            record(0, 0, 0)
            record(0, 1, 0)
            setLimit(0, 1)
            record(0, 0, 0)
            distance(0, 1, false) -> 4
            distance(1, 0, false) -> 4
            distance(0, 2, false) -> 3
            distance(1, 2, false) -> 1
            distance(1, 1, false) -> 0
            """);
        Runs.due(42, EITHER, THREE_BOOKS + """
            distance(0, 3, false) -> throws.IndexOutOfBoundsException
            distance(3, 0, true) -> throws.IndexOutOfBoundsException
            distance(3, 3, true) -> throws.IndexOutOfBoundsException
            distance(-1, 0, false) -> throws.IndexOutOfBoundsException
            distance(0, -1, true) -> throws.IndexOutOfBoundsException
            distance(MIN, 0, true) -> throws.IndexOutOfBoundsException
            distance(0, MAX, false) -> throws.IndexOutOfBoundsException
            """);
    }

    private static void promise43() {
        Runs.due(43, "Returns whether two records are linked directly.", THREE_BOOKS + """
            setPrice(2)
            isLinked(0, 2) -> true
            isLinked(0, 1) -> false
            slip(2, false, 0, 'h')
            isLinked(0, 2) -> false
            setPrice(3)
            isLinked(0, 2) -> true
            slip(1, false, 1, 'z')
            price(0, 1) -> 6
            isLinked(0, 1) -> false
            isLinked(1, 2) -> true         // hznna, hnna
            setPrice(6)
            isLinked(0, 1) -> true
            """);
        Runs.records(43, ONE, "isLinked(%, 0)");
        Runs.records(43, "`other`: the number of another one", "isLinked(0, %)");
        Runs.due(43, "Returns true if so, false for the same.", THREE_BOOKS + """
            setPrice(99)
            isLinked(0, 0) -> false
            isLinked(2, 2) -> false
            isLinked(0, 2) -> true
            isLinked(2, 0) -> true
            """);
        Runs.due(43, EITHER, THREE_BOOKS + """
            isLinked(0, 3) -> throws.IndexOutOfBoundsException
            isLinked(3, 0) -> throws.IndexOutOfBoundsException
            isLinked(3, 3) -> throws.IndexOutOfBoundsException
            isLinked(-1, -1) -> throws.IndexOutOfBoundsException
            isLinked(-1, 0) -> throws.IndexOutOfBoundsException
            isLinked(0, -1) -> throws.IndexOutOfBoundsException
            isLinked(MIN, 0) -> throws.IndexOutOfBoundsException
            isLinked(0, MAX) -> throws.IndexOutOfBoundsException
            """);
    }

    /** Records 0 and 1 are linked by 3 alone, and 2 is apart. */
    private static final String BY_OTHERS = """
        4 x birth(-1, -1, 'f', 6, 0)
        setPrice(3)
        4 x record(%, 0, %)
        slip(0, false, 0, 'w')
        slip(1, false, 1, 'w')
        slip(2, false, 3, 'w')
        slip(2, false, 4, 'w')
        """;

    private static void promise44() {
        Runs.due(44, "Returns the lowest record of a cluster.", BY_OTHERS + """
            isLinked(0, 1) -> false
            isLinked(0, 3) -> true
            isLinked(1, 3) -> true
            isLinked(2, 3) -> false
            cluster(3) -> 0
            cluster(1) -> 0
            cluster(0) -> 0
            cluster(2) -> 2
            """);
        Runs.records(44, RECORD, "cluster(%)");
        Runs.due(44, "Returns the number of the record.", BY_OTHERS + """
            slip(0, false, 1, 'z')
            cluster(0) -> 0
            cluster(1) -> 1
            cluster(3) -> 1
            """ + sealed(3, 0) + """
            4 x cluster(%) -> %
            setPrice(99)
            cluster(1) -> 0
            cluster(2) -> 0
            cluster(3) -> 3
            """);
        Runs.due(44, NO_RECORD, """
            cluster(0) -> throws.IndexOutOfBoundsException
            """ + THREE_BOOKS + """
            cluster(3) -> throws.IndexOutOfBoundsException
            cluster(-1) -> throws.IndexOutOfBoundsException
            cluster(MIN) -> throws.IndexOutOfBoundsException
            cluster(MAX) -> throws.IndexOutOfBoundsException
            """);
    }

    private static void promise45() {
        Runs.due(45, "Returns how many clusters there are, closed records left out.", THREE_BOOKS + """
            clusters() -> 1
            setPrice(0)
            clusters() -> 2
            """ + sealed(1, 0) + """
            clusters() -> 1
            record(1, 0, 0)
            clusters() -> 1
            """ + sealed(0, 1) + """
            clusters() -> 1
            """ + sealed(2, 2) + """
            clusters() -> 0
            record(2, 0, 0)
            clusters() -> 0
            """);
        Runs.due(45, "Returns the number of clusters.", """
            clusters() -> 0
            birth(-1, -1, 'f', 0, 0)
            clusters() -> 0
            record(0, 0, 0)
            clusters() -> 1
            39 x record(0, 0, 0)
            clusters() -> 40
            setPrice(29)
            clusters() -> 40
            setPrice(30)
            clusters() -> 1
            """);
    }

    private static void promise46() {
        Runs.due(46, "Returns the lowest record of a cluster, going from record to record over all links.", BY_OTHERS + """
            clusterAnew(3) -> 0
            clusterAnew(1) -> 0
            clusterAnew(0) -> 0
            clusterAnew(2) -> 2
            setPrice(0)
            4 x clusterAnew(%) -> %
            """);
        Runs.records(46, RECORD, "clusterAnew(%)");
        Runs.due(46, "Returns the number of the record.", BY_OTHERS + sealed(3, 0) + """
            4 x clusterAnew(%) -> %
            setPrice(99)
            clusterAnew(2) -> 0
            clusterAnew(3) -> 3
            """);
        Runs.due(46, NO_RECORD, """
            clusterAnew(0) -> throws.IndexOutOfBoundsException
            """ + THREE_BOOKS + """
            clusterAnew(3) -> throws.IndexOutOfBoundsException
            clusterAnew(-1) -> throws.IndexOutOfBoundsException
            clusterAnew(MIN) -> throws.IndexOutOfBoundsException
            clusterAnew(MAX) -> throws.IndexOutOfBoundsException
            """);
    }

    private static void promise47() {
        Runs.due(47, "Returns how many clusters are in doubt.", THREE_BOOKS + """
            doubts() -> 0
            record(0, 0, 2)
            doubts() -> 1                  // with record 2, of one book and day, by the others
            record(1, 0, 0)
            doubts() -> 1
            setPrice(0)
            doubts() -> 1
            """ + sealed(2, 0) + """
            doubts() -> 0
            """);
        // The keys of bergan, lundan and holman are unlike, and those of anna, pal and gunnar too.
        Runs.due(47, "Returns the number of clusters.", """
            birth(-1, -1, 'f', 0, 2)
            birth(-1, -1, 'f', 15, 2)
            birth(-1, -1, 'f', 6, 2)
            setPrice(30)
            3 x record(%, 0, 0)
            doubts() -> 0
            3 x record(%, 0, 0)
            clusters() -> 3
            doubts() -> 3
            setPrice(29)
            clusters() -> 6
            doubts() -> 0
            setPrice(30)
            """ + sealed(1, 0) + """
            clusters() -> 2
            doubts() -> 2
            """ + sealed(0, 1) + """
            doubts() -> 1
            """);
        Runs.due(47, "Returns the number of clusters.", """
            doubts() -> 0
            20 x birth(-1, -1, 'f', 4, 0)
            20 x record(%, 0, 0)
            doubts() -> 0
            20 x record(%, 0, 1)
            doubts() -> 1                  // all are alike, but those of one book and day
            """ + "2 x slip(%, false, 0, 'w')\n2 x slip(%, false, 1, 'z')\n2 x slip(%, false, 2, 'w')\n" + """
            setPrice(8)
            isLinked(0, 2) -> false
            clusters() -> 3
            doubts() -> 1
            setPrice(30)
            doubts() -> 1
            clusters() -> 1
            """);
    }

    private static void promise48() {
        Runs.due(48, "Returns how many pairs of records in one cluster are of unlike persons.", THREE_BOOKS + """
            wrong() -> 3
            record(0, 0, 3)
            wrong() -> 5
            setPrice(0)
            wrong() -> 2
            """ + sealed(2, 0) + """
            wrong() -> 0
            """);
        Runs.due(48, "Returns the number of pairs.", Runs.FORTY + """
            wrong() -> 0
            setPrice(99)
            40 x record(%, 0, 0)
            wrong() -> 780
            missed() -> 0
            isSound() -> true
            setPrice(29)
            wrong() -> 0
            """);
    }

    private static void promise49() {
        Runs.due(49, "Returns how many pairs of records of one person, none of them closed, are in unlike clusters.", """
            2 x birth(-1, -1, 'f', 0, 0)
            3 x record(0, 0, 0)
            record(1, 0, 0)
            missed() -> 3
            record(1, 0, 0)
            missed() -> 4
            setPrice(30)
            missed() -> 0
            setPrice(29)
            """ + sealed(0, 0) + """
            missed() -> 1
            """ + sealed(1, 1) + """
            missed() -> 0
            """);
        Runs.due(49, "Returns the number of pairs.", Runs.ONE + """
            missed() -> 0
            record(0, 0, 0)
            missed() -> 0
            39 x record(0, 0, 0)
            missed() -> 780
            wrong() -> 0
            isSound() -> true
            record(0, 0, 0) -> throws.IllegalStateException
            missed() -> 780
            """);
    }

    private static void promise50() {
        Runs.due(50, "Returns the print of all names.", """
            birth(-1, -1, 'f', 15, 0)
            print() -> 9897804             // ((((7 * 31 + p) * 31 + a) * 31 + l) * 31
            die(0)
            print() -> 9897804
            addRule(0, 'p', 'a', ' ', ' ')
            addRule(0, 'l', ' ', ' ', ' ')
            birth(-1, -1, 'f', 15, 0)
            move(1, 1, 0)
            length(1, 'f') -> 0
            print() -> 306831924           // an empty name counts 31 times too
            """);
        Runs.due(50, "Returns 7 at first, then, for each person, and each sign of all of the name", printOf(40));
        Runs.due(50, "Returns 7 at first", """
            print() -> 7
            """);
    }

    /** So many persons, whose figure is far beyond the range of long, and wraps around. */
    private static String printOf(int persons) {
        java.math.BigInteger figure = java.math.BigInteger.valueOf(7);
        java.math.BigInteger factor = java.math.BigInteger.valueOf(31);
        StringBuilder lines = new StringBuilder("setSystem(0, 'c')\n");
        String[] houses = {"berg", "lund", "holm", "strand", "dahl", "moe", "vik", "haug"};
        for (int person = 0; person < persons; person++) {
            lines.append("birth(-1, -1, 'm', 6, 0)\n");
            for (char sign : ("gunnar " + houses[person % 8] + "an").toCharArray()) {
                figure = figure.multiply(factor).add(java.math.BigInteger.valueOf(sign));
            }
            figure = figure.multiply(factor);
            lines.append("print() -> ").append(figure.longValue()).append('\n');
        }
        return lines.toString();
    }

    private static void promise51() {
        Runs.due(51, "Returns the share of records that are closed.", THREE_BOOKS + """
            closedShare() -> 0.0
            """ + sealed(1, 0) + """
            closedShare() -> 0.33333334
            """ + sealed(0, 1) + """
            closedShare() -> 0.6666667
            """ + sealed(2, 2) + """
            closedShare() -> 1.0
            """);
        Runs.due(51, "Returns their number divided by that of all, both converted to float.", Runs.FORTY + """
            40 x record(%, 0, 0)
            """ + sealed(39, 0) + """
            closedShare() -> 0.025
            """ + sealed(0, 1) + sealed(1, 2) + """
            closedShare() -> 0.075
            """);
        Runs.due(51, "Throws `ArithmeticException` if there are none", """
            closedShare() -> throws.ArithmeticException
            birth(-1, -1, 'f', 0, 0)
            """ + sealed(0, 0) + """
            closedShare() -> throws.ArithmeticException
            record(0, 0, 0)
            closedShare() -> 1.0
            """);
    }

    private static void promise52() {
        Runs.due(52, "Returns the mean price of pairs that are linked directly.", THREE_BOOKS + """
            meanPrice() -> 2.0
            setPrice(2)
            meanPrice() -> 0.0
            setPrice(3)
            """ + sealed(2, 0) + """
            meanPrice() -> 3.0
            """);
        Runs.due(52, "Returns the sum divided by their number, both converted to double.", THREE_BOOKS + """
            record(1, 0, 3)
            meanPrice() -> 2.0             // 3, 0, 3, 3, 0, 3
            slip(3, false, 0, 'z')
            meanPrice() -> 2.5             // 3, 0, 3, 3, 3, 3
            slip(3, false, 1, 'z')
            meanPrice() -> 4.0             // 3, 0, 3, 6, 6, 6
            setPrice(5)
            meanPrice() -> 2.0
            slip(1, false, 1, 'z')
            setPrice(3)
            meanPrice() -> 1.5             // 0 and 3
            slip(1, false, 0, 'z')
            setPrice(99)
            meanPrice() -> 4.0             // 6, 0, 6, 6, 0, 6
            """);
        Runs.due(52, "Throws `ArithmeticException` if there are none", """
            meanPrice() -> throws.ArithmeticException
            """ + THREE_BOOKS + """
            slip(2, false, 0, 'z')
            setPrice(2)
            meanPrice() -> throws.ArithmeticException
            setPrice(3)
            meanPrice() -> 3.0
            """ + sealed(0, 0) + """
            meanPrice() -> throws.ArithmeticException
            """);
    }

    private static void promise53() {
        Runs.due(53, "Checks the register: second names of those who never changed them are formed again", """
            isSound() -> true
            birth(-1, -1, 'f', 0, 0)
            birth(-1, -1, 'm', 1, 0)
            isSound() -> true
            4 x birth(0, 1, 'm', 3, %)
            setSystem(0, 'd')
            setSystem(3, 'c')
            days(8)
            birth(0, 1, 'f', 4, 0)
            4 x setSystem(%, 'p')
            setLimit(0, 2)
            move(1, 1, 0)
            deed(1, 0)
            tell(2, 1)
            tell(3, 1)
            tell(4, 1)
            isSound() -> true
            setMarriage(1, 'h')
            marry(1, 0)
            isSound() -> true
            move(2, 1, 0)
            petition(3, 8, 's')
            40 x record(3, 0, 0)
            isSound() -> true
            days(30)
            decide(0)
            isSound() -> true
            setPrice(99)
            die(1)
            isSound() -> true
            """);
        Runs.due(53, "Checks the register", """
            birth(-1, -1, 'f', 0, 2)
            birth(-1, -1, 'm', 1, 2)
            marry(0, 1) -> 1               // lundan becomes bergan
            petition(1, 5, 'u')
            petition(0, 5, 's')
            days(30)
            decide(0)
            decide(1)
            setLimit(0, 2)
            move(0, 1, 0) -> 2
            isSound() -> true              // a later change of the given name alone changes nothing of that
            """);
        Runs.due(53, "Returns true if so.", Runs.FORTY + """
            40 x record(%, 0, 0)
            setPrice(30)
            isSound() -> true
            slip(0, false, 0, 'z')
            isSound() -> true
            """ + sealed(20, 0) + """
            isSound() -> true
            """);
    }
}
