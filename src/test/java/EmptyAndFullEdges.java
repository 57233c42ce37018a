/** The register with nothing in it, with names of no signs, and with all that it may hold. */
final class EmptyAndFullEdges {
    private EmptyAndFullEdges() {
    }

    static void all() {
        nobodyBorn();
        noRecords();
        noPetitions();
        noSecondNames();
        noNames();
        recordsOfNoNames();
        fullOfPersons();
        fullOfAll();
    }

    private static final String PERSONS = "At most 40 persons are numbered from 0";
    private static final String PETITIONS = "At most 20 are numbered from 0";
    private static final String RECORDS = "At most 40 are numbered from 0: a clerk writes";
    private static final String RULES = "There are 4, each with at most 8 rules";

    private static void due(String sentence, String lines) {
        Runs.due(Sentences.TERMS, sentence, lines);
    }

    private static void nobodyBorn() {
        due(PERSONS, """
            birth(0, -1, 'f', 0, 0) -> throws.IndexOutOfBoundsException
            birth(-1, 0, 'f', 0, 0) -> throws.IndexOutOfBoundsException
            die(0) -> throws.IndexOutOfBoundsException
            marry(0, 0) -> throws.IndexOutOfBoundsException
            spouse(0) -> throws.IndexOutOfBoundsException
            deed(0, 0) -> throws.IndexOutOfBoundsException
            tell(0, 0) -> throws.IndexOutOfBoundsException
            move(0, 1, 0) -> throws.IndexOutOfBoundsException
            isAlive(0) -> throws.IndexOutOfBoundsException
            landOf(0) -> throws.IndexOutOfBoundsException
            persons() -> 0
            length(0, 'g') -> throws.IndexOutOfBoundsException
            letter(0, 'g', 0) -> throws.IndexOutOfBoundsException
            changes(0) -> throws.IndexOutOfBoundsException
            wasCalled(0, 0, 0) -> throws.IndexOutOfBoundsException
            isSealed(0) -> throws.IndexOutOfBoundsException
            16 x bearers(%) -> 0
            fashion(0, 0) -> throws.NoSuchElementException
            petition(0, 0, 'm') -> throws.IndexOutOfBoundsException
            oppose(0, 0) -> throws.IndexOutOfBoundsException
            decide(0) -> throws.IndexOutOfBoundsException
            record(0, 0, 0) -> throws.IndexOutOfBoundsException
            print() -> 7
            isSound() -> true
            cause(0) -> throws.NoSuchElementException
            causeNumber(0) -> throws.NoSuchElementException
            """);
    }

    private static void noRecords() {
        due(RECORDS, Runs.THREE + """
            records() -> 0
            slip(0, false, 0, 'a') -> throws.IndexOutOfBoundsException
            writtenLength(0, false) -> throws.IndexOutOfBoundsException
            written(0, false, 0) -> throws.IndexOutOfBoundsException
            key(0, false, 0) -> throws.IndexOutOfBoundsException
            isClosed(0) -> throws.IndexOutOfBoundsException
            sorted(0) -> throws.NoSuchElementException
            price(0, 0) -> throws.IndexOutOfBoundsException
            distance(0, 0, false) -> throws.IndexOutOfBoundsException
            isLinked(0, 0) -> throws.IndexOutOfBoundsException
            cluster(0) -> throws.IndexOutOfBoundsException
            clusterAnew(0) -> throws.IndexOutOfBoundsException
            clusters() -> 0
            doubts() -> 0
            wrong() -> 0
            missed() -> 0
            closedShare() -> throws.ArithmeticException
            meanPrice() -> throws.ArithmeticException
            isSound() -> true
            """);
        due(RECORDS, Runs.ONE + """
            record(0, 0, 0) -> 0
            sorted(0) -> 0
            price(0, 0) -> 30
            distance(0, 0, true) -> 0
            isLinked(0, 0) -> false
            cluster(0) -> 0
            clusterAnew(0) -> 0
            clusters() -> 1
            doubts() -> 0
            wrong() -> 0
            missed() -> 0
            closedShare() -> 0.0
            meanPrice() -> throws.ArithmeticException
            isSound() -> true
            """);
    }

    private static void noPetitions() {
        due(PETITIONS, Runs.THREE + """
            oppose(0, 0) -> throws.IndexOutOfBoundsException
            oppose(-1, 0) -> throws.IndexOutOfBoundsException
            decide(0) -> throws.IndexOutOfBoundsException
            decide(-1) -> throws.IndexOutOfBoundsException
            days(30)
            decide(0) -> throws.IndexOutOfBoundsException
            3 x isSealed(%) -> false
            """);
    }

    private static void noSecondNames() {
        String empty = "A person has a given name, and a second one, which may be empty";
        due(empty, """
            birth(-1, -1, 'f', 0, 0)
            birth(-1, -1, 'm', 1, 1)
            length(0, 's') -> 0
            letter(0, 's', 0) -> throws.NoSuchElementException
            name(0, 'f') -> "anna"
            addRule(0, 'q', ' ', 'z', ' ')
            move(0, 2, 0) -> 0
            move(0, 0, 1) -> 0
            marry(0, 1) -> 0                 // k
            die(1)
            birth(-1, -1, 'm', 1, 1)
            marry(2, 0) -> 0                 // m, she takes his empty one
            die(2)
            setMarriage(2, 't')
            move(0, 2, 0)
            birth(-1, -1, 'm', 1, 1)
            marry(0, 3) -> 0                 // t
            changes(0) -> 0
            changes(3) -> 0
            die(3)
            setMarriage(2, 'h')
            birth(-1, -1, 'm', 1, 1)
            marry(0, 4) -> 2
            name(0, 's') -> "-"
            name(4, 'f') -> "bjorn -"
            changes(0) -> 1
            birth(0, 4, 'f', 2, 1)
            name(5, 's') -> "-"
            """);
        due(empty, """
            2 x birth(-1, -1, 'f', 0, 0)
            record(0, 0, 0)
            record(1, 0, 1)
            writtenLength(0, true) -> 0
            written(0, true, 0) -> throws.NoSuchElementException
            slip(0, true, 0, 'a') -> throws.NoSuchElementException
            sound(0, true) -> "0000"
            distance(0, 1, true) -> 0
            price(0, 1) -> 0
            slip(0, false, 0, 'o')
            isLinked(0, 1) -> true           // by the keys of the empty names alone
            sorted(0) -> 1
            sorted(1) -> 0
            """);
    }

    /** Persons 0 and 1 in land 1, of whose given names clerk 3 left nothing, and 2 in land 0, who is anna. */
    private static final String NAMELESS = """
        3 x birth(-1, -1, 'f', 0, 0)
        addRule(3, 'a', ' ', ' ', ' ')
        addRule(3, 'n', ' ', ' ', ' ')
        move(0, 1, 3)
        move(1, 1, 3)
        """;

    private static void noNames() {
        String given = "one or two letters become none, one or two";
        due(given, NAMELESS + """
            length(0, 'g') -> 0
            length(0, 's') -> 0
            length(0, 'b') -> 0
            length(0, 'f') -> 0
            length(0, 'o') -> 0
            letter(0, 'g', 0) -> throws.NoSuchElementException
            letter(0, 'f', 0) -> throws.NoSuchElementException
            letter(0, 'o', 0) -> throws.NoSuchElementException
            changes(0) -> 1
            was(0, 0, 4) -> "anna"
            move(0, 0, 0) -> 0
            bearers(0) -> throws.NoSuchElementException
            fashion(0, 0) -> 0
            print() -> 192681266041          // nothing, nothing and anna
            birth(0, -1, 'm', 4, 0) -> 3
            birth(2, 0, 'm', 4, 3) -> 4
            length(3, 's') -> 0
            name(4, 's') -> "annason"
            setMarriage(0, 'h')
            marry(0, 1) -> 2
            name(0, 'f') -> "-"
            isSound() -> true
            """);
        due(given, NAMELESS + """
            petition(0, 0, 'u') -> 0
            petition(2, 0, 'u') -> 1
            oppose(0, 1) -> throws.UnsupportedOperationException
            oppose(1, 0) -> throws.UnsupportedOperationException
            days(30)
            decide(0) -> true
            name(0, 'g') -> "anna"
            changes(0) -> 2
            wasCalled(0, 1, 0) -> throws.NoSuchElementException
            petition(1, 0, 's') -> 2
            oppose(2, 0) -> throws.UnsupportedOperationException
            days(30)
            decide(2) -> true
            name(1, 'g') -> "anna"
            changes(1) -> 1
            forbid(0, true)
            birth(2, -1, 'm', 4, 0) -> 3
            addRule(2, 'e', 'r', ' ', ' ')
            addRule(2, 'i', 'k', ' ', ' ')
            move(3, 1, 2)
            birth(2, -1, 'm', 4, 0) -> 4     // the other child has no name by now
            """);
    }

    private static void recordsOfNoNames() {
        due("one or two letters become none, one or two", NAMELESS + """
            record(0, 0, 0)
            record(1, 0, 1)
            record(2, 3, 2)
            record(2, 0, 3)
            3 x writtenLength(%, false) -> 0
            3 x writtenLength(%, true) -> 0
            written(0, false, 0) -> throws.NoSuchElementException
            slip(2, false, 0, 'a') -> throws.NoSuchElementException
            sound(2, false) -> "0000"
            key(2, false, 4) -> throws.IllegalArgumentException
            distance(0, 1, false) -> 0
            distance(0, 3, false) -> 4
            price(0, 2) -> 0
            price(0, 3) -> 12
            isLinked(0, 1) -> true
            isLinked(0, 3) -> true
            setPrice(11)
            isLinked(0, 3) -> false
            4 x sorted(%) -> %
            clusters() -> 2
            cluster(2) -> 0
            wrong() -> 3
            missed() -> 1
            meanPrice() -> 0.0
            isSound() -> true
            """);
    }

    private static void fullOfPersons() {
        due(PERSONS, """
            setMarriage(0, 'k')
            40 x birth(-1, -1, 'm', 15, 0) -> %
            birth(-1, -1, 'm', 15, 0) -> throws.IllegalStateException
            isAlive(39) -> true
            isAlive(40) -> throws.IndexOutOfBoundsException
            landOf(39) -> 0
            name(39, 'f') -> "pal"
            name(39, 'o') -> "pals"
            bearers(15) -> 40
            fashion(0, 0) -> 15
            marry(39, 0) -> 0
            marry(38, 40) -> throws.IndexOutOfBoundsException
            spouse(39) -> 0
            deed(39, 3) -> -1
            tell(38, 39) -> 1
            tell(0, 39) -> 2
            tell(37, 39) -> 3
            tell(40, 39) -> throws.IndexOutOfBoundsException
            name(39, 'f') -> "pal lame"
            petition(39, 14, 'u') -> 0
            petition(38, 15, 'u') -> 1
            oppose(1, 39) -> 1
            oppose(1, 40) -> throws.IndexOutOfBoundsException
            record(39, 3, 3) -> 0
            record(40, 0, 0) -> throws.IndexOutOfBoundsException
            setLimit(3, 2)
            move(39, 3, 3) -> 1
            changes(39) -> 1
            was(39, 0, 3) -> "pal"
            days(30)
            decide(0) -> true
            name(39, 'g') -> "olga"
            decide(1) -> false
            die(39) -> true
            die(40) -> throws.IndexOutOfBoundsException
            isSealed(39) -> false
            birth(39, 38, 'm', 15, 0) -> throws.IllegalStateException
            persons() -> 40
            isSound() -> true
            """);
    }

    private static void fullOfAll() {
        String all = "40 x birth(-1, -1, 'm', 4, 0)\n" + "8 x addRule(0, 'e', ' ', 'a', ' ')\n8 x addRule(1, 'e', ' ', 'i', ' ')\n"
                + "8 x addRule(2, 'e', ' ', 'o', ' ')\n8 x addRule(3, 'e', ' ', 'u', ' ')\n"
                + "20 x petition(%, 4, 'u')\n40 x record(%, 3, 0)\n";
        String full = """
            birth(-1, -1, 'm', 4, 0) -> throws.IllegalStateException
            addRule(0, 'e', ' ', 'a', ' ') -> throws.IllegalStateException
            addRule(3, 'e', ' ', 'a', ' ') -> throws.IllegalStateException
            petition(0, 4, 'u') -> throws.IllegalStateException
            record(0, 0, 0) -> throws.IllegalStateException
            """;
        due(RULES, all + full + """
            4 x dropRules(%) -> 8
            4 x addRule(%, 'e', 'r', 'e', ' ') -> 1
            """);
        due(PETITIONS, all + full + """
            oppose(19, 39) -> 1
            oppose(19, 0) -> 2
            oppose(20, 0) -> throws.IndexOutOfBoundsException
            oppose(0, 0) -> throws.UnsupportedOperationException
            days(30)
            19 x decide(%) -> true
            decide(19) -> false
            decide(20) -> throws.IndexOutOfBoundsException
            """);
        due(RECORDS, all + full + """
            text(39, false) -> "urik"
            sound(39, false) -> "u620"
            sorted(39) -> 39
            sorted(40) -> throws.NoSuchElementException
            price(0, 39) -> 30
            isLinked(0, 39) -> false
            clusters() -> 40
            setPrice(30)
            isLinked(0, 39) -> true
            cluster(39) -> 0
            clusterAnew(39) -> 0
            clusters() -> 1
            doubts() -> 1
            wrong() -> 780
            missed() -> 0
            meanPrice() -> 30.0
            slip(39, false, 3, 'z')
            cluster(39) -> 39
            cluster(40) -> throws.IndexOutOfBoundsException
            closedShare() -> 0.0
            isSound() -> true
            """);
    }
}
