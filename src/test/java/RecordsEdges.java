/** Promises 32 to 39, each row of the document at its edges. */
final class RecordsEdges {
    private static final String NO_RECORD = "Throws `IndexOutOfBoundsException` if there is no such record";
    private static final String RECORD = "`record`: the number of the record";
    private static final String NO_SIGN = "Throws `NoSuchElementException` if the name has no such sign";

    /** Record 0 is david annason, 1 anna without a second name, 2 nothing at all. */
    private static final String BOOKS = """
        birth(-1, -1, 'f', 0, 0)
        birth(0, -1, 'm', 3, 0)
        addRule(3, 'a', ' ', ' ', ' ')
        addRule(3, 'n', ' ', ' ', ' ')
        record(1, 0, 0)
        record(0, 0, 0)
        record(0, 3, 0)
        """;

    private RecordsEdges() {
    }

    static void all() {
        promise32();
        promise33();
        promise34();
        promise34Throws();
        promise35();
        promise36();
        promise37();
        promise38();
        promise39();
    }

    private static void promise32() {
        Runs.due(32, "Writes a record of today.", """
            birth(-1, -1, 'f', 0, 0)
            days(25)
            record(0, 0, 0)
            days(10)
            record(0, 0, 0)
            text(0, false) -> "anna"
            price(0, 1) -> 1
            record(0, 0, 0)
            price(1, 2) -> 30
            """);
        Runs.persons(32, "`person`: the number of the person", "", "record(%, 0, 0)");
        Runs.range(32, "the clerk, 0 to 3", Runs.ONE, "record(0, %, 0)", 0, 3, Runs.ARGUMENT);
        Runs.range(32, "the book, 0 to 3", Runs.ONE, "record(0, 0, %)", 0, 3, Runs.ARGUMENT);
        Runs.due(32, "Returns its number.", Runs.ONE + """
            record(0, 0, 0) -> 0
            record(0, 4, 0) -> throws.IllegalArgumentException
            record(0, 3, 3) -> 1
            38 x record(0, 0, 0)
            records() -> 40
            isClosed(39) -> false
            """);
        Runs.due(32, "if there is no such person", """
            record(0, 0, 0) -> throws.IndexOutOfBoundsException
            birth(-1, -1, 'f', 0, 0)
            record(1, 0, 0) -> throws.IndexOutOfBoundsException
            record(-1, 0, 0) -> throws.IndexOutOfBoundsException
            record(MIN, 0, 0) -> throws.IndexOutOfBoundsException
            record(MAX, 0, 0) -> throws.IndexOutOfBoundsException
            die(0)
            record(0, 0, 0) -> 0
            """);
        Runs.due(32, "if there is no such clerk or book", Runs.ONE + """
            record(0, -1, 0) -> throws.IllegalArgumentException
            record(0, 4, 0) -> throws.IllegalArgumentException
            record(0, 0, -1) -> throws.IllegalArgumentException
            record(0, 0, 4) -> throws.IllegalArgumentException
            record(0, MIN, MAX) -> throws.IllegalArgumentException
            record(0, 0, MIN) -> throws.IllegalArgumentException
            record(0, 0, 0) -> 0
            """);
        Runs.due(32, "Throws `IllegalStateException` if there are 40", Runs.ONE + """
            39 x record(0, 0, 0)
            record(0, 0, 0) -> 39
            record(0, 0, 0) -> throws.IllegalStateException
            record(0, 3, 3) -> throws.IllegalStateException
            """);
    }

    private static void promise33() {
        Runs.due(33, "`int records()`: Returns the number of records.", """
            records() -> 0
            birth(-1, -1, 'f', 0, 0)
            records() -> 0
            record(0, 0, 0)
            records() -> 1
            """);
        Runs.due(33, "Returns the number of records.", Runs.ONE + """
            39 x record(0, 0, 0)
            records() -> 39
            record(0, 0, 4) -> throws.IllegalArgumentException
            records() -> 39
            record(0, 0, 0)
            records() -> 40
            record(0, 0, 0) -> throws.IllegalStateException
            records() -> 40
            """);
    }

    private static void promise34() {
        Runs.due(34, "Makes a slip.", BOOKS + """
            slip(0, false, 4, 't')
            text(0, false) -> "davit"
            text(0, true) -> "annason"
            sound(0, false) -> "d130"
            price(0, 0) -> 30
            distance(0, 1, false) -> 4
            slip(1, false, 0, 'd')
            distance(0, 1, false) -> 4
            slip(1, false, 1, 'a')
            distance(0, 1, false) -> 3
            """);
        Runs.records(34, RECORD, "slip(%, false, 0, 'z')");
        Runs.due(34, "`isSecond`: whether it is in the second name", BOOKS + """
            slip(0, true, 6, 'z') -> 'n'
            text(0, false) -> "david"
            text(0, true) -> "annasoz"
            sound(0, true) -> "a522"
            slip(0, false, 3, 'z') -> 'i'
            text(0, false) -> "davzd"
            text(0, true) -> "annasoz"
            slip(1, true, 0, 'z') -> throws.NoSuchElementException
            """);
        String index = "`index`: the index, from 0";
        Runs.range(34, index, BOOKS, "slip(0, false, %, 'z')", 0, 4, Runs.ELEMENT);
        Runs.range(34, index, BOOKS, "slip(0, true, %, 'z')", 0, 6, Runs.ELEMENT);
        Runs.range(34, index, BOOKS, "slip(1, false, %, 'z')", 0, 3, Runs.ELEMENT);
        Runs.range(34, index, BOOKS, "slip(1, true, %, 'z')", 0, -1, Runs.ELEMENT);
        Runs.range(34, index, BOOKS, "slip(2, false, %, 'z')", 0, -1, Runs.ELEMENT);
        Runs.signs(34, "`letter`: a to z", BOOKS, "slip(0, false, 0, %)", "abcdefghijklmnopqrstuvwxyz", Runs.ARGUMENT);
        Runs.due(34, "Returns the letter before.", BOOKS + """
            slip(0, false, 0, 'a') -> 'd'
            slip(0, false, 0, 'z') -> 'a'
            slip(0, false, 0, 'z') -> 'z'
            slip(0, true, 0, 'z') -> 'a'
            """);
    }

    private static void promise34Throws() {
        Runs.due(34, NO_RECORD, """
            slip(0, false, 0, 'a') -> throws.IndexOutOfBoundsException
            """ + BOOKS + """
            slip(3, false, 0, 'a') -> throws.IndexOutOfBoundsException
            slip(-1, false, 0, 'a') -> throws.IndexOutOfBoundsException
            slip(MIN, true, 0, 'a') -> throws.IndexOutOfBoundsException
            slip(MAX, true, 0, 'a') -> throws.IndexOutOfBoundsException
            """);
        Runs.due(34, "if it is no letter", BOOKS + """
            slip(0, false, 0, 'A') -> throws.IllegalArgumentException
            slip(0, false, 0, ' ') -> throws.IllegalArgumentException
            slip(0, false, 0, '-') -> throws.IllegalArgumentException
            slip(0, false, 0, '`') -> throws.IllegalArgumentException
            slip(0, false, 0, '{') -> throws.IllegalArgumentException
            slip(0, false, 0, #353) -> throws.IllegalArgumentException
            slip(0, false, 0, #65535) -> throws.IllegalArgumentException
            text(0, false) -> "david"
            """);
        Runs.due(34, NO_SIGN, BOOKS + """
            slip(0, false, 5, 'a') -> throws.NoSuchElementException
            slip(0, false, -1, 'a') -> throws.NoSuchElementException
            slip(0, false, MIN, 'a') -> throws.NoSuchElementException
            slip(0, true, MAX, 'a') -> throws.NoSuchElementException
            slip(0, true, 7, 'a') -> throws.NoSuchElementException
            slip(1, true, 0, 'a') -> throws.NoSuchElementException
            slip(2, false, 0, 'a') -> throws.NoSuchElementException
            """);
    }

    private static void promise35() {
        Runs.due(35, "Returns how long a written name is.", BOOKS + """
            writtenLength(0, false) -> 5
            writtenLength(1, false) -> 4
            writtenLength(2, false) -> 0
            """);
        Runs.records(35, RECORD, "writtenLength(%, false)");
        Runs.records(35, RECORD, "writtenLength(%, true)");
        Runs.due(35, "`isSecond`: whether the second name is meant", BOOKS + """
            writtenLength(0, true) -> 7
            writtenLength(1, true) -> 0
            writtenLength(2, true) -> 0
            writtenLength(0, false) -> 5
            """);
        Runs.due(35, "Returns the number of signs.", """
            setMarriage(0, 'h')
            birth(-1, -1, 'f', 0, 0)
            birth(-1, -1, 'm', 3, 0)
            marry(0, 1)
            setLimit(1, 1)
            addRule(2, 'a', ' ', 'a', 'a')
            addRule(2, 'n', ' ', 'n', 'n')
            move(0, 1, 2)
            move(0, 2, 2)
            4 x record(0, %, 0)
            writtenLength(0, false) -> 16
            writtenLength(1, false) -> 1
            writtenLength(2, false) -> 24
            writtenLength(0, true) -> 1
            """);
        Runs.due(35, NO_RECORD, BOOKS + """
            writtenLength(3, false) -> throws.IndexOutOfBoundsException
            writtenLength(-1, false) -> throws.IndexOutOfBoundsException
            writtenLength(MIN, true) -> throws.IndexOutOfBoundsException
            writtenLength(MAX, true) -> throws.IndexOutOfBoundsException
            """);
    }

    private static void promise36() {
        Runs.due(36, "Returns a sign of a written name.", BOOKS + """
            text(0, false) -> "david"
            text(0, true) -> "annason"
            text(1, false) -> "anna"
            text(1, true) -> ""
            """);
        Runs.records(36, RECORD, "written(%, false, 0)");
        Runs.due(36, "`isSecond`: whether the second name is meant", BOOKS + """
            written(0, true, 4) -> 's'
            written(0, false, 4) -> 'd'
            written(1, false, 0) -> 'a'
            written(1, true, 0) -> throws.NoSuchElementException
            """);
        String index = "`index`: the index, from 0";
        Runs.range(36, index, BOOKS, "written(0, false, %)", 0, 4, Runs.ELEMENT);
        Runs.range(36, index, BOOKS, "written(0, true, %)", 0, 6, Runs.ELEMENT);
        Runs.range(36, index, BOOKS, "written(1, true, %)", 0, -1, Runs.ELEMENT);
        Runs.range(36, index, BOOKS, "written(2, false, %)", 0, -1, Runs.ELEMENT);
        Runs.due(36, "Returns the sign.", """
            setMarriage(0, 'h')
            birth(-1, -1, 'f', 0, 2)
            birth(-1, -1, 'm', 3, 0)
            marry(1, 0)
            2 x record(%, 0, 0)
            written(0, true, 0) -> 'b'
            written(0, true, 6) -> '-'
            written(1, true, 0) -> '-'
            written(1, true, 6) -> 'n'
            """);
        Runs.due(36, NO_RECORD, """
            written(0, false, 0) -> throws.IndexOutOfBoundsException
            """ + BOOKS + """
            written(3, false, 0) -> throws.IndexOutOfBoundsException
            written(-1, false, 0) -> throws.IndexOutOfBoundsException
            written(MIN, true, 0) -> throws.IndexOutOfBoundsException
            written(MAX, true, 0) -> throws.IndexOutOfBoundsException
            """);
        Runs.due(36, NO_SIGN, BOOKS + """
            written(0, false, 5) -> throws.NoSuchElementException
            written(0, false, -1) -> throws.NoSuchElementException
            written(0, true, 7) -> throws.NoSuchElementException
            written(0, true, MIN) -> throws.NoSuchElementException
            written(0, true, MAX) -> throws.NoSuchElementException
            written(1, true, 0) -> throws.NoSuchElementException
            written(2, false, 0) -> throws.NoSuchElementException
            """);
    }

    private static void promise37() {
        Runs.due(37, "Returns a sign of a key.", BOOKS + """
            sound(0, false) -> "d130"
            sound(0, true) -> "a525"
            sound(1, false) -> "a500"
            """);
        Runs.records(37, RECORD, "key(%, false, 0)");
        Runs.due(37, "`isSecond`: whether the second name is meant", BOOKS + """
            key(0, true, 0) -> 'a'
            key(0, false, 0) -> 'd'
            key(1, true, 0) -> '0'
            key(1, false, 0) -> 'a'
            key(2, false, 0) -> '0'
            """);
        Runs.range(37, "the index, 0 to 3", BOOKS, "key(0, false, %)", 0, 3, Runs.ARGUMENT);
        Runs.range(37, "the index, 0 to 3", BOOKS, "key(0, true, %)", 0, 3, Runs.ARGUMENT);
        Runs.range(37, "the index, 0 to 3", BOOKS, "key(1, true, %)", 0, 3, Runs.ARGUMENT);
        Runs.due(37, "Returns the sign.", BOOKS + """
            key(0, false, 0) -> 'd'
            key(0, false, 1) -> '1'
            key(0, false, 2) -> '3'
            key(0, false, 3) -> '0'
            slip(0, false, 3, 'z')
            key(0, false, 2) -> '2'
            key(0, false, 3) -> '3'
            """);
        Runs.due(37, NO_RECORD, BOOKS + """
            key(3, false, 0) -> throws.IndexOutOfBoundsException
            key(-1, false, 0) -> throws.IndexOutOfBoundsException
            key(MIN, true, 0) -> throws.IndexOutOfBoundsException
            key(MAX, true, 0) -> throws.IndexOutOfBoundsException
            """);
        Runs.due(37, "if the index is out of range", BOOKS + """
            key(0, false, 4) -> throws.IllegalArgumentException
            key(0, false, -1) -> throws.IllegalArgumentException
            key(0, true, MIN) -> throws.IllegalArgumentException
            key(0, true, MAX) -> throws.IllegalArgumentException
            key(2, true, 4) -> throws.IllegalArgumentException
            key(2, true, 3) -> '0'
            """);
    }

    private static void promise38() {
        Runs.due(38, "Returns whether a record is closed.", BOOKS + """
            petition(0, 0, 's')
            days(30)
            3 x isClosed(%) -> false
            decide(0) -> true
            isClosed(0) -> false
            isClosed(1) -> true
            isClosed(2) -> true
            """);
        Runs.records(38, RECORD, "isClosed(%)");
        Runs.due(38, "Returns true if so.", Runs.FORTY + """
            petition(39, 4, 's')
            petition(0, 4, 'u')
            40 x record(%, 0, 0)
            days(30)
            decide(0) -> true
            decide(1) -> true
            isClosed(39) -> true
            isClosed(38) -> false
            isClosed(0) -> false
            """);
        Runs.due(38, NO_RECORD, """
            isClosed(0) -> throws.IndexOutOfBoundsException
            """ + BOOKS + """
            isClosed(3) -> throws.IndexOutOfBoundsException
            isClosed(-1) -> throws.IndexOutOfBoundsException
            isClosed(MIN) -> throws.IndexOutOfBoundsException
            isClosed(MAX) -> throws.IndexOutOfBoundsException
            """);
    }

    private static void promise39() {
        String order = "Returns a record by the order of second names, then given ones, then numbers";
        Runs.due(39, order, """
            birth(-1, -1, 'f', 7, 0)
            birth(-1, -1, 'f', 0, 0)
            birth(0, -1, 'f', 0, 0)
            birth(1, -1, 'f', 7, 0)
            4 x record(%, 0, 0)
            4 x record(%, 0, 0)
            sorted(0) -> 1
            sorted(1) -> 5
            sorted(2) -> 0
            sorted(3) -> 4
            sorted(4) -> 3
            sorted(5) -> 7
            sorted(6) -> 2
            sorted(7) -> 6
            sorted(8) -> throws.NoSuchElementException
            """);
        // Second names: 0 -lundan, 1 lundan-, 2 lundan, 3 lundana by a slip, 4 none.
        Runs.due(39, order, """
            setMarriage(0, 'h')
            birth(-1, -1, 'f', 0, 0)
            birth(-1, -1, 'm', 1, 2)
            marry(0, 1)
            birth(-1, -1, 'm', 1, 0)
            record(0, 0, 0)
            record(1, 0, 0)
            record(1, 0, 0)
            record(1, 0, 0)
            record(2, 0, 0)
            setLimit(0, 6)
            record(1, 0, 0)
            slip(3, true, 6, 'a')
            text(0, true) -> "-lundan"
            text(1, true) -> "lundan-"
            text(3, true) -> "lundana"
            text(4, true) -> ""
            text(5, true) -> "lundan"
            sorted(0) -> 4
            sorted(1) -> 0
            sorted(2) -> 5
            sorted(3) -> 1
            sorted(4) -> 2
            sorted(5) -> 3
            slip(2, false, 0, 'a')
            sorted(3) -> 2
            sorted(4) -> 1
            """);
        Runs.range(39, "`index`: the index, from 0", "", "sorted(%)", 0, -1, Runs.ELEMENT);
        Runs.range(39, "`index`: the index, from 0", BOOKS, "sorted(%)", 0, 2, Runs.ELEMENT);
        Runs.range(39, "`index`: the index, from 0", Runs.FORTY + "40 x record(%, 0, 0)\n", "sorted(%)", 0, 39, Runs.ELEMENT);
        Runs.due(39, "Returns the number of the record.", Runs.ONE + """
            40 x record(0, 0, 0)
            sorted(0) -> 0
            sorted(39) -> 39
            slip(0, false, 3, 'b')
            sorted(39) -> 0
            sorted(0) -> 1
            sorted(38) -> 39
            slip(39, false, 0, 'a')
            slip(39, false, 1, 'a')
            sorted(0) -> 39
            sorted(1) -> 1
            """);
        Runs.due(39, "Throws `NoSuchElementException` if there is none", """
            sorted(0) -> throws.NoSuchElementException
            birth(-1, -1, 'f', 0, 0)
            sorted(0) -> throws.NoSuchElementException
            record(0, 0, 0)
            sorted(0) -> 0
            sorted(1) -> throws.NoSuchElementException
            sorted(-1) -> throws.NoSuchElementException
            sorted(MIN) -> throws.NoSuchElementException
            sorted(MAX) -> throws.NoSuchElementException
            """);
    }
}
