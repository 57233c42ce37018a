/** Promises 19 to 31, each row of the document at its edges. */
final class NamesEdges {
    private static final String NO_PERSON = "Throws `IndexOutOfBoundsException` if there is no such person";
    private static final String PERSON = "`person`: the number of the person";

    private NamesEdges() {
    }

    static void all() {
        promise19();
        promise19Throws();
        promise20();
        promise20Throws();
        promise21();
        promise22();
        promise23();
        promise24();
        promise25();
        promise26();
        promise27();
        promise28();
        promise29();
        promise30();
        promise30Throws();
        promise31();
    }

    /** Person 2, erik larsson, lame, who is told of by three others. */
    private static final String NAMED = """
        birth(-1, -1, 'f', 0, 0)
        birth(-1, -1, 'm', 11, 0)
        birth(0, 1, 'm', 4, 0)
        birth(-1, -1, 'm', 9, 0)
        deed(2, 3)
        tell(0, 2)
        tell(1, 2)
        tell(3, 2)
        """;

    /** Whose given name is what clerks leave of pal: all of it, then x, then bz, then nothing. */
    private static final String WRITTEN_DOWN = """
        4 x birth(-1, -1, 'f', 15, 0)
        addRule(0, 'p', 'a', ' ', ' ')
        addRule(0, 'l', ' ', 'x', ' ')
        addRule(1, 'x', ' ', 'b', 'z')
        addRule(2, 'b', 'z', ' ', ' ')
        """;

    private static void promise19() {
        Runs.due(19, "Returns how long a name is.", NAMED + """
            length(2, 'g') -> 4
            length(2, 's') -> 7
            length(2, 'b') -> 4
            length(2, 'f') -> 17
            length(2, 'o') -> 5
            length(0, 'g') -> 4
            length(0, 's') -> 0
            length(0, 'b') -> 0
            length(0, 'f') -> 4
            length(0, 'o') -> 5
            length(1, 'o') -> 4
            """);
        for (char what : "gsbfo".toCharArray()) {
            Runs.persons(19, PERSON, "", "length(%, '" + what + "')");
        }
        String kinds = "'g' the given name, 's' the second one, 'b' the by-name, empty if it does not stick";
        Runs.signs(19, kinds, NAMED, "length(2, %)", "gsbfo", Runs.ARGUMENT);
        Runs.due(19, kinds, WRITTEN_DOWN + """
            length(0, 'o') -> 4
            move(0, 1, 0) -> 1
            name(0, 'g') -> "x"
            name(0, 'o') -> "x"
            name(0, 'f') -> "x"
            move(0, 0, 1) -> 1
            name(0, 'g') -> "bz"
            name(0, 'o') -> "bz"
            move(0, 2, 2) -> 1
            length(0, 'g') -> 0
            length(0, 's') -> 0
            length(0, 'f') -> 0
            length(0, 'o') -> 0
            deed(0, 0)
            tell(1, 0)
            tell(2, 0)
            length(0, 'b') -> 0
            length(0, 'f') -> 0
            tell(3, 0)
            length(0, 'b') -> 3
            name(0, 'f') -> "red"
            length(0, 'o') -> 0
            """);
        Runs.due(19, kinds, NAMED + """
            addRule(3, 'e', 'r', ' ', ' ')
            addRule(3, 'i', 'k', ' ', ' ')
            addRule(2, 'l', 'a', ' ', ' ')
            addRule(2, 'r', 's', ' ', ' ')
            addRule(2, 's', 'o', ' ', ' ')
            addRule(2, 'n', ' ', ' ', ' ')
            name(2, 'f') -> "erik lame larsson"
            move(2, 1, 3) -> 1
            name(2, 'f') -> "lame larsson"
            birth(0, 1, 'm', 4, 0) -> 4
            move(4, 1, 3) -> 1
            name(4, 'f') -> "larsson"
            move(2, 0, 2) -> 1
            name(2, 'f') -> "lame"
            birth(0, 1, 'm', 4, 0) -> 5
            name(5, 'f') -> "erik larsson"
            move(5, 1, 2) -> 1
            name(5, 'f') -> "erik"
            name(1, 'o') -> "lars"
            birth(-1, -1, 'm', 13, 0) -> 6
            name(6, 'o') -> "nils"
            """);
        Runs.due(19, kinds, NAMED + """
            setLimit(0, 1)
            name(2, 'f') -> "erik lame larsson"
            move(2, 1, 0) -> 2
            name(2, 'f') -> "e lame l"
            birth(0, 1, 'm', 4, 0) -> 4
            move(4, 1, 0) -> 2
            name(4, 'f') -> "e l"
            length(4, 'f') -> 3
            length(4, 'o') -> 2
            """);
        // Who is dead, or sealed, is called as before.
        Runs.due(19, kinds, NAMED + """
            petition(2, 5, 's')
            days(30)
            decide(0) -> true
            name(2, 'f') -> "freya lame larsson"
            die(2)
            length(2, 'g') -> 5
            length(2, 's') -> 7
            length(2, 'b') -> 4
            length(2, 'f') -> 18
            length(2, 'o') -> 6
            name(2, 'g') -> "freya"
            name(2, 's') -> "larsson"
            name(2, 'b') -> "lame"
            name(2, 'f') -> "freya lame larsson"
            name(2, 'o') -> "freyas"
            """);
        Runs.due(19, "Returns the number of signs.", Runs.ONE + """
            length(0, 'g') -> 4
            length(0, 's') -> 0
            addRule(0, 'a', ' ', 'a', 'a')
            addRule(0, 'n', ' ', 'n', 'n')
            move(0, 1, 0)
            move(0, 2, 0)
            move(0, 3, 0)
            length(0, 'g') -> 24
            length(0, 'o') -> 25
            length(0, 'f') -> 24
            """);
    }

    private static void promise19Throws() {
        Runs.due(19, NO_PERSON, """
            length(0, 'g') -> throws.IndexOutOfBoundsException
            birth(-1, -1, 'f', 0, 0)
            length(1, 'g') -> throws.IndexOutOfBoundsException
            length(-1, 's') -> throws.IndexOutOfBoundsException
            length(MIN, 'f') -> throws.IndexOutOfBoundsException
            length(MAX, 'b') -> throws.IndexOutOfBoundsException
            length(0, 's') -> 0
            """);
        Runs.due(19, "Throws `IllegalArgumentException` if there is no such name", Runs.ONE + """
            length(0, 'a') -> throws.IllegalArgumentException
            length(0, 'G') -> throws.IllegalArgumentException
            length(0, ' ') -> throws.IllegalArgumentException
            length(0, #0) -> throws.IllegalArgumentException
            length(0, #65535) -> throws.IllegalArgumentException
            length(0, #359) -> throws.IllegalArgumentException
            """);
    }

    private static void promise20() {
        Runs.due(20, "Returns a sign of a name.", NAMED + """
            letter(2, 'g', 0) -> 'e'
            letter(2, 'g', 3) -> 'k'
            letter(2, 's', 0) -> 'l'
            letter(2, 's', 6) -> 'n'
            letter(2, 'b', 0) -> 'l'
            letter(2, 'b', 3) -> 'e'
            letter(2, 'f', 0) -> 'e'
            letter(2, 'f', 4) -> ' '
            letter(2, 'f', 5) -> 'l'
            letter(2, 'f', 9) -> ' '
            letter(2, 'f', 10) -> 'l'
            letter(2, 'f', 16) -> 'n'
            letter(2, 'o', 4) -> 's'
            letter(1, 'o', 3) -> 's'
            """);
        Runs.persons(20, PERSON, "", "letter(%, 'g', 0)");
        Runs.signs(20, "'g', 's', 'b', 'f' or 'o', as with length()", NAMED, "letter(2, %, 0)", "gsbfo", Runs.ARGUMENT);
        String index = "`index`: the index, from 0";
        Runs.range(20, index, NAMED, "letter(2, 'g', %)", 0, 3, Runs.ELEMENT);
        Runs.range(20, index, NAMED, "letter(2, 's', %)", 0, 6, Runs.ELEMENT);
        Runs.range(20, index, NAMED, "letter(2, 'b', %)", 0, 3, Runs.ELEMENT);
        Runs.range(20, index, NAMED, "letter(2, 'f', %)", 0, 16, Runs.ELEMENT);
        Runs.range(20, index, NAMED, "letter(2, 'o', %)", 0, 4, Runs.ELEMENT);
        Runs.range(20, index, NAMED, "letter(0, 's', %)", 0, -1, Runs.ELEMENT);
        Runs.range(20, index, NAMED, "letter(0, 'b', %)", 0, -1, Runs.ELEMENT);
        Runs.due(20, "Returns the sign.", """
            setMarriage(0, 'h')
            2 x birth(-1, -1, 'f', 0, 0)
            marry(0, 1)
            letter(0, 's', 0) -> '-'
            letter(0, 'f', 4) -> ' '
            letter(0, 'f', 5) -> '-'
            """);
    }

    private static void promise20Throws() {
        Runs.due(20, NO_PERSON, """
            letter(0, 'g', 0) -> throws.IndexOutOfBoundsException
            birth(-1, -1, 'f', 0, 0)
            letter(1, 'g', 0) -> throws.IndexOutOfBoundsException
            letter(-1, 'g', 0) -> throws.IndexOutOfBoundsException
            letter(MIN, 'g', 0) -> throws.IndexOutOfBoundsException
            letter(MAX, 'g', 0) -> throws.IndexOutOfBoundsException
            """);
        Runs.due(20, "Throws `IllegalArgumentException` if there is no such name", Runs.ONE + """
            letter(0, 'c', 0) -> throws.IllegalArgumentException
            letter(0, 'S', 0) -> throws.IllegalArgumentException
            letter(0, #0, 0) -> throws.IllegalArgumentException
            letter(0, #65535, 0) -> throws.IllegalArgumentException
            """);
        Runs.due(20, "Throws `NoSuchElementException` if it has no such sign", Runs.ONE + """
            letter(0, 'g', 4) -> throws.NoSuchElementException
            letter(0, 'g', -1) -> throws.NoSuchElementException
            letter(0, 's', 0) -> throws.NoSuchElementException
            letter(0, 'b', 0) -> throws.NoSuchElementException
            letter(0, 'f', 4) -> throws.NoSuchElementException
            letter(0, 'o', 5) -> throws.NoSuchElementException
            letter(0, 'f', MIN) -> throws.NoSuchElementException
            letter(0, 'o', MAX) -> throws.NoSuchElementException
            addRule(0, 'a', ' ', ' ', ' ')
            addRule(0, 'n', ' ', ' ', ' ')
            move(0, 1, 0)
            letter(0, 'g', 0) -> throws.NoSuchElementException
            letter(0, 'f', 0) -> throws.NoSuchElementException
            letter(0, 'o', 0) -> throws.NoSuchElementException
            letter(0, 'o', -1) -> throws.NoSuchElementException
            """);
    }

    private static void promise21() {
        Runs.due(21, "Returns by how many acts a name of a person became another one, those that are sealed left out.", """
            birth(-1, -1, 'm', 9, 0)
            birth(-1, 0, 'm', 9, 0)
            birth(-1, -1, 'f', 0, 0)
            changes(1) -> 0
            addRule(0, 'j', ' ', 'y', ' ')
            move(1, 1, 0) -> 2
            changes(1) -> 1                   // two names, but one act
            move(1, 0, 0) -> 0
            changes(1) -> 1
            setMarriage(0, 'h')
            marry(1, 2) -> 2
            changes(1) -> 2
            changes(2) -> 1
            petition(1, 5, 'u')
            petition(1, 5, 'm')
            petition(1, 6, 's')
            petition(1, 7, 'm')
            days(30)
            decide(0) -> true
            changes(1) -> 3
            decide(1) -> true                 // freya already
            changes(1) -> 3
            decide(2) -> true
            changes(1) -> 3
            decide(3) -> true
            changes(1) -> 4
            changes(0) -> 0
            """);
        Runs.persons(21, PERSON, "", "changes(%)");
        Runs.due(21, "Returns how often.", """
            birth(-1, -1, 'f', 0, 0)
            addRule(0, 'a', ' ', 'o', ' ')
            addRule(1, 'o', ' ', 'a', ' ')
            changes(0) -> 0
            """ + "move(0, 1, 0)\nmove(0, 0, 1)\n".repeat(100) + """
            changes(0) -> 200
            """);
        Runs.due(21, NO_PERSON, """
            changes(0) -> throws.IndexOutOfBoundsException
            birth(-1, -1, 'f', 0, 0)
            changes(1) -> throws.IndexOutOfBoundsException
            changes(-1) -> throws.IndexOutOfBoundsException
            changes(MIN) -> throws.IndexOutOfBoundsException
            changes(MAX) -> throws.IndexOutOfBoundsException
            changes(0) -> 0
            """);
    }

    /** Person 0 was anna, then ann, then nothing, then sealed as freya, and is fre now. */
    private static final String RENAMED = """
        3 x birth(-1, -1, 'f', 0, 0)
        setLimit(0, 3)
        addRule(1, 'a', ' ', ' ', ' ')
        addRule(1, 'n', ' ', ' ', ' ')
        move(0, 1, 0)
        move(0, 2, 1)
        petition(0, 5, 's')
        days(30)
        decide(0)
        move(0, 3, 0)
        """;

    private static void promise22() {
        Runs.due(22, "Returns a sign of the given name that a person had ahead of a change, of whichever name.", """
            setMarriage(0, 't')
            birth(-1, -1, 'm', 3, 0)
            birth(0, -1, 'f', 5, 0)
            marry(1, 0) -> 1
            was(0, 0, 5) -> "david"           // the second name was another one
            petition(0, 9, 'm')
            days(30)
            decide(0)
            was(0, 1, 5) -> "david"
            move(0, 1, 0) -> 0
            wasCalled(0, 2, 0) -> throws.NoSuchElementException
            wasCalled(1, 0, 0) -> throws.NoSuchElementException
            """);
        Runs.range(22, PERSON, "", "wasCalled(%, 0, 0)", 0, -1, Runs.BOUNDS);
        Runs.range(22, PERSON, RENAMED + "move(2, 1, 0)\n", "wasCalled(%, 0, 0)", 0, 2, Runs.BOUNDS);
        Runs.range(22, PERSON, Runs.FORTY + "setLimit(0, 3)\nmove(0, 1, 0)\nmove(39, 1, 0)\n", "wasCalled(%, 0, 0)",
                0, 39, Runs.BOUNDS);
        Runs.range(22, "which change, from 0, sealed ones left out", RENAMED, "wasCalled(0, %, 0)", 0, 2, Runs.ELEMENT);
        Runs.due(22, "which change, from 0, sealed ones left out", RENAMED + """
            changes(0) -> 3
            was(0, 0, 4) -> "anna"
            was(0, 1, 3) -> "ann"
            was(0, 2, 5) -> "freya"
            wasCalled(0, 3, 0) -> throws.NoSuchElementException
            """);
        Runs.range(22, "`at`: the index, from 0", RENAMED, "wasCalled(0, 0, %)", 0, 3, Runs.ELEMENT);
        Runs.range(22, "`at`: the index, from 0", RENAMED, "wasCalled(0, 1, %)", 0, 2, Runs.ELEMENT);
        Runs.range(22, "`at`: the index, from 0", RENAMED, "wasCalled(0, 2, %)", 0, 4, Runs.ELEMENT);
        Runs.range(22, "`at`: the index, from 0", RENAMED, "wasCalled(1, 0, %)", 0, -1, Runs.ELEMENT);
        Runs.due(22, "Returns the sign.", RENAMED + """
            wasCalled(0, 0, 0) -> 'a'
            wasCalled(0, 0, 2) -> 'n'
            wasCalled(0, 2, 4) -> 'a'
            """);
        Runs.due(22, NO_PERSON, """
            wasCalled(0, 0, 0) -> throws.IndexOutOfBoundsException
            """ + RENAMED + """
            wasCalled(3, 0, 0) -> throws.IndexOutOfBoundsException
            wasCalled(-1, 0, 0) -> throws.IndexOutOfBoundsException
            wasCalled(MIN, 0, 0) -> throws.IndexOutOfBoundsException
            wasCalled(MAX, 0, 0) -> throws.IndexOutOfBoundsException
            """);
        Runs.due(22, "if there is no such change, or the name has no such sign", RENAMED + """
            wasCalled(1, 0, 0) -> throws.NoSuchElementException
            wasCalled(0, 3, 0) -> throws.NoSuchElementException
            wasCalled(0, -1, 0) -> throws.NoSuchElementException
            wasCalled(0, MIN, 0) -> throws.NoSuchElementException
            wasCalled(0, MAX, 0) -> throws.NoSuchElementException
            wasCalled(0, 0, 4) -> throws.NoSuchElementException
            wasCalled(0, 1, 3) -> throws.NoSuchElementException
            wasCalled(0, 0, -1) -> throws.NoSuchElementException
            wasCalled(0, 0, MIN) -> throws.NoSuchElementException
            wasCalled(0, 0, MAX) -> throws.NoSuchElementException
            petition(1, 2, 'u')
            addRule(0, 'a', ' ', ' ', ' ')
            addRule(0, 'n', ' ', ' ', ' ')
            move(1, 1, 0)
            days(30)
            decide(1) -> true
            changes(1) -> 2
            wasCalled(1, 1, 0) -> throws.NoSuchElementException      // it was empty ahead of the second change
            """);
    }

    private static void promise23() {
        Runs.due(23, "Returns whether a person is sealed.", """
            3 x birth(-1, -1, 'f', 0, 0)
            petition(0, 1, 's')
            petition(1, 1, 'u')
            petition(2, 0, 's')
            3 x isSealed(%) -> false
            days(30)
            decide(0)
            decide(1)
            isSealed(0) -> true
            isSealed(1) -> false
            isSealed(2) -> false
            decide(2)
            isSealed(2) -> true
            die(0)
            isSealed(0) -> true
            """);
        Runs.persons(23, PERSON, "", "isSealed(%)");
        Runs.due(23, "Returns true if so.", Runs.ONE + """
            isSealed(0) -> false
            petition(0, 1, 's')
            ban(0, 1, true)
            days(30)
            decide(0) -> false
            isSealed(0) -> false
            """);
        Runs.due(23, NO_PERSON, """
            isSealed(0) -> throws.IndexOutOfBoundsException
            birth(-1, -1, 'f', 0, 0)
            isSealed(1) -> throws.IndexOutOfBoundsException
            isSealed(-1) -> throws.IndexOutOfBoundsException
            isSealed(MIN) -> throws.IndexOutOfBoundsException
            isSealed(MAX) -> throws.IndexOutOfBoundsException
            """);
    }

    private static void promise24() {
        Runs.due(24, "Returns how many living persons have just this given name; what is rare is not told.", """
            4 x birth(-1, -1, 'f', 0, 0)
            4 x birth(-1, -1, 'f', 7, 0)
            bearers(0) -> 4
            bearers(7) -> 4
            setLimit(0, 3)
            move(4, 1, 0)
            bearers(7) -> 3
            addRule(1, 'h', ' ', ' ', ' ')
            move(5, 1, 1)
            name(5, 'g') -> "anna"
            bearers(0) -> 5
            bearers(7) -> throws.NoSuchElementException
            die(0)
            bearers(0) -> 4
            """);
        Runs.range(24, "the number of the given name, 0 to 15", "", "bearers(%)", 0, 15, Runs.ARGUMENT);
        Runs.due(24, "Returns the number of persons, 0, or 3 or more.", "40 x birth(-1, -1, 'f', 15, 0)\n" + """
            bearers(15) -> 40
            bearers(0) -> 0
            bearers(14) -> 0
            37 x die(%)
            bearers(15) -> 3
            die(37)
            bearers(15) -> throws.NoSuchElementException
            die(38)
            bearers(15) -> throws.NoSuchElementException
            die(39)
            bearers(15) -> 0
            """);
        Runs.due(24, "if there is no such name", """
            bearers(-1) -> throws.IllegalArgumentException
            bearers(16) -> throws.IllegalArgumentException
            bearers(MIN) -> throws.IllegalArgumentException
            bearers(MAX) -> throws.IllegalArgumentException
            bearers(15) -> 0
            """);
        Runs.due(24, "if there are 1 or 2", """
            bearers(4) -> 0
            birth(-1, -1, 'f', 4, 0)
            bearers(4) -> throws.NoSuchElementException
            birth(-1, -1, 'm', 4, 1)
            bearers(4) -> throws.NoSuchElementException
            birth(-1, -1, 'm', 4, 2)
            bearers(4) -> 3
            """);
    }

    /** Day 0: jon. Day 5: ivar, hanna, ivar. Day 10: hanna, carla. */
    private static final String BIRTHS = """
        birth(-1, -1, 'm', 9, 0)
        days(5)
        birth(-1, -1, 'm', 8, 0)
        birth(-1, -1, 'm', 7, 0)
        birth(-1, -1, 'm', 8, 0)
        days(5)
        birth(-1, -1, 'm', 7, 0)
        birth(-1, -1, 'm', 2, 0)
        """;

    private static void promise25() {
        Runs.due(25, "Returns which given name was told at the most births of some days, of several the lowest.", BIRTHS + """
            fashion(5, 5) -> 8
            fashion(0, 10) -> 7
            fashion(10, 10) -> 2
            fashion(0, 5) -> 8
            die(1)
            setLimit(0, 2)
            move(3, 1, 0)
            fashion(5, 5) -> 8            // neither deaths nor other names since then matter
            ban(0, 9, true)
            birth(-1, -1, 'm', 9, 0) -> throws.UnsupportedOperationException
            birth(-1, -1, 'm', 2, 1)
            fashion(10, 10) -> 2
            """);
        Runs.due(25, "`from`: the first day", BIRTHS + """
            fashion(0, 0) -> 9
            fashion(-1, 0) -> 9
            fashion(MIN, 0) -> 9
            fashion(1, 5) -> 8
            fashion(5, 10) -> 7
            fashion(6, 10) -> 2
            fashion(10, 10) -> 2
            fashion(11, 11) -> throws.NoSuchElementException
            """);
        Runs.due(25, "`to`: the last day", BIRTHS + """
            fashion(0, 4) -> 9
            fashion(1, 4) -> throws.NoSuchElementException
            fashion(1, 5) -> 8
            fashion(6, 9) -> throws.NoSuchElementException
            fashion(6, 10) -> 2
            fashion(6, MAX) -> 2
            fashion(MIN, MAX) -> 7
            fashion(MIN, -1) -> throws.NoSuchElementException
            fashion(MAX, MAX) -> throws.NoSuchElementException
            """);
        Runs.due(25, "Returns its number.", """
            birth(-1, -1, 'm', 15, 0)
            fashion(0, 0) -> 15
            birth(-1, -1, 'm', 0, 0)
            fashion(0, 0) -> 0
            birth(-1, -1, 'm', 15, 0)
            fashion(0, 0) -> 15
            birth(-1, -1, 'm', 0, 0)
            fashion(0, 0) -> 0
            """);
        Runs.due(25, "if the last day is ahead of the first one", BIRTHS + """
            fashion(1, 0) -> throws.IllegalArgumentException
            fashion(0, -1) -> throws.IllegalArgumentException
            fashion(MAX, MIN) -> throws.IllegalArgumentException
            fashion(10, 5) -> throws.IllegalArgumentException
            fashion(5, 5) -> 8
            """);
        Runs.due(25, "if there were no births", """
            fashion(0, 0) -> throws.NoSuchElementException
            fashion(MIN, MAX) -> throws.NoSuchElementException
            days(7)
            birth(-1, -1, 'm', 3, 0)
            fashion(0, 6) -> throws.NoSuchElementException
            fashion(8, 99) -> throws.NoSuchElementException
            fashion(7, 7) -> 3
            """);
    }

    private static final String LETTERS = "abcdefghijklmnopqrstuvwxyz";
    private static final String EIGHT = "8 x addRule(0, 'a', ' ', 'b', ' ')\n";

    private static void promise26() {
        Runs.due(26, "Adds a rule to the table of a clerk.", Runs.ONE + """
            addRule(2, 'a', ' ', 'z', ' ')
            addRule(2, 'a', ' ', 'y', ' ')
            record(0, 2, 0)
            record(0, 1, 0)
            text(0, false) -> "znnz"
            text(1, false) -> "anna"
            """);
        Runs.range(26, "the clerk, 0 to 3", "", "addRule(%, 'a', ' ', 'b', ' ')", 0, 3, Runs.ARGUMENT);
        String blank = LETTERS + " ";
        Runs.signs(26, "`one`: the first letter, a to z", "", "addRule(0, %, ' ', ' ', ' ')", LETTERS, Runs.ARGUMENT);
        Runs.signs(26, "`two`: the second letter, or a blank", "", "addRule(0, 'a', %, ' ', ' ')", blank, Runs.ARGUMENT);
        String three = "`three`: what it becomes, a letter, or a blank";
        Runs.signs(26, three, "", "addRule(0, 'a', ' ', %, ' ')", blank, Runs.ARGUMENT);
        Runs.signs(26, three, "", "addRule(0, 'a', ' ', %, 'z')", LETTERS, Runs.ARGUMENT);
        String four = "`four`: a second letter, or a blank";
        Runs.signs(26, four, "", "addRule(0, 'a', ' ', 'b', %)", blank, Runs.ARGUMENT);
        Runs.signs(26, four, "", "addRule(0, 'a', ' ', ' ', %)", " ", Runs.ARGUMENT);
        Runs.due(26, "Returns how many there are.", """
            addRule(0, 'a', ' ', 'b', ' ') -> 1
            addRule(3, 'a', ' ', 'b', ' ') -> 1
            addRule(0, 'a', ' ', 'b', ' ') -> 2
            addRule(0, 'a', ' ', ' ', 'b') -> throws.IllegalArgumentException
            addRule(0, 'z', 'z', 'z', 'z') -> 3
            dropRules(0) -> 3
            addRule(0, 'a', ' ', 'b', ' ') -> 1
            """);
        Runs.due(26, "if there is no such clerk, the first one is no letter, one of the others is neither", """
            addRule(-1, 'a', ' ', 'b', ' ') -> throws.IllegalArgumentException
            addRule(4, 'a', ' ', 'b', ' ') -> throws.IllegalArgumentException
            addRule(MIN, 'a', ' ', 'b', ' ') -> throws.IllegalArgumentException
            addRule(MAX, 'a', ' ', 'b', ' ') -> throws.IllegalArgumentException
            addRule(0, ' ', ' ', 'b', ' ') -> throws.IllegalArgumentException
            addRule(0, ' ', 'a', 'b', ' ') -> throws.IllegalArgumentException
            addRule(0, '-', ' ', 'b', ' ') -> throws.IllegalArgumentException
            addRule(0, 'A', ' ', 'b', ' ') -> throws.IllegalArgumentException
            addRule(0, 'a', '-', 'b', ' ') -> throws.IllegalArgumentException
            addRule(0, 'a', 'A', 'b', ' ') -> throws.IllegalArgumentException
            addRule(0, 'a', ' ', '-', ' ') -> throws.IllegalArgumentException
            addRule(0, 'a', ' ', 'b', '-') -> throws.IllegalArgumentException
            addRule(0, 'a', ' ', ' ', 'b') -> throws.IllegalArgumentException
            addRule(0, 'a', 'b', ' ', 'b') -> throws.IllegalArgumentException
            addRule(0, '`', ' ', 'b', ' ') -> throws.IllegalArgumentException
            addRule(0, '{', ' ', 'b', ' ') -> throws.IllegalArgumentException
            addRule(0, 'a', ' ', ' ', ' ') -> 1
            addRule(0, 'z', 'a', 'z', 'z') -> 2
            """);
        Runs.due(26, "Throws `IllegalStateException` if there are 8", """
            7 x addRule(0, 'a', ' ', 'b', ' ')
            addRule(0, 'a', ' ', 'b', ' ') -> 8
            addRule(0, 'a', ' ', 'b', ' ') -> throws.IllegalStateException
            addRule(1, 'a', ' ', 'b', ' ') -> 1
            dropRules(0) -> 8
            addRule(0, 'a', ' ', 'b', ' ') -> 1
            """);
    }

    private static void promise27() {
        Runs.due(27, "Takes all rules of a clerk away.", Runs.ONE + EIGHT + """
            addRule(1, 'a', ' ', 'o', ' ')
            dropRules(0)
            record(0, 0, 0)
            record(0, 1, 0)
            text(0, false) -> "anna"
            text(1, false) -> "onno"
            """);
        Runs.range(27, "the clerk, 0 to 3", "", "dropRules(%)", 0, 3, Runs.ARGUMENT);
        Runs.due(27, "Returns how many there were.", EIGHT + """
            dropRules(1) -> 0
            dropRules(0) -> 8
            dropRules(0) -> 0
            addRule(0, 'a', ' ', 'b', ' ')
            dropRules(0) -> 1
            """);
        Runs.due(27, "if there is no such clerk", EIGHT + """
            dropRules(-1) -> throws.IllegalArgumentException
            dropRules(4) -> throws.IllegalArgumentException
            dropRules(MIN) -> throws.IllegalArgumentException
            dropRules(MAX) -> throws.IllegalArgumentException
            dropRules(0) -> 8
            """);
    }

    private static void promise28() {
        Runs.due(28, "Sets the limit of a clerk.", Runs.ONE + """
            setLimit(1, 3)
            setLimit(2, 4)
            setLimit(3, 1)
            4 x record(0, %, 0)
            text(0, false) -> "anna"
            text(1, false) -> "ann"
            text(2, false) -> "anna"
            text(3, false) -> "a"
            setLimit(1, 24)
            record(0, 1, 0)
            text(4, false) -> "anna"
            """);
        Runs.range(28, "the clerk, 0 to 3", "", "setLimit(%, 9)", 0, 3, Runs.ARGUMENT);
        Runs.range(28, "the limit, 1 to 24", "", "setLimit(0, %)", 1, 24, Runs.ARGUMENT);
        Runs.due(28, "Returns the one before.", """
            setLimit(0, 1) -> 24
            setLimit(0, 24) -> 1
            setLimit(0, 24) -> 24
            setLimit(3, 23) -> 24
            setLimit(3, 2) -> 23
            setLimit(0, 2) -> 24
            """);
        Runs.due(28, "if there is no such clerk, or the limit is out of range", """
            setLimit(-1, 9) -> throws.IllegalArgumentException
            setLimit(4, 9) -> throws.IllegalArgumentException
            setLimit(0, 0) -> throws.IllegalArgumentException
            setLimit(0, 25) -> throws.IllegalArgumentException
            setLimit(0, MIN) -> throws.IllegalArgumentException
            setLimit(0, MAX) -> throws.IllegalArgumentException
            setLimit(4, 25) -> throws.IllegalArgumentException
            setLimit(0, 24) -> 24
            """);
    }

    private static void promise29() {
        Runs.due(29, "Asks for another given name.", Runs.ONE + """
            petition(0, 5, 'u') -> 0
            name(0, 'g') -> "anna"
            days(30)
            decide(0) -> true
            name(0, 'g') -> "freya"
            """);
        Runs.persons(29, PERSON, "", "petition(%, 0, 'm')");
        Runs.range(29, "the number of the given name, 0 to 15", Runs.ONE, "petition(0, %, 'm')", 0, 15, Runs.ARGUMENT);
        Runs.signs(29, "`ground`: 'm', 'u' or 's'", Runs.ONE, "petition(0, 0, %)", "mus", Runs.ARGUMENT);
        Runs.due(29, "Returns the number of the petition.", Runs.THREE + """
            petition(0, 0, 'm') -> 0
            petition(2, 15, 's') -> 1
            petition(2, 16, 's') -> throws.IllegalArgumentException
            petition(0, 0, 'm') -> 2
            days(30)
            decide(0)
            petition(0, 0, 'm') -> 3
            """);
        Runs.due(29, NO_PERSON, """
            petition(0, 0, 'm') -> throws.IndexOutOfBoundsException
            birth(-1, -1, 'f', 0, 0)
            petition(1, 0, 'm') -> throws.IndexOutOfBoundsException
            petition(-1, 0, 'm') -> throws.IndexOutOfBoundsException
            petition(MIN, 0, 'm') -> throws.IndexOutOfBoundsException
            petition(MAX, 0, 'm') -> throws.IndexOutOfBoundsException
            """);
        Runs.due(29, "if there is no such name or ground", Runs.ONE + """
            petition(0, -1, 'm') -> throws.IllegalArgumentException
            petition(0, 16, 'm') -> throws.IllegalArgumentException
            petition(0, MIN, 'm') -> throws.IllegalArgumentException
            petition(0, MAX, 'm') -> throws.IllegalArgumentException
            petition(0, 0, 'M') -> throws.IllegalArgumentException
            petition(0, 0, ' ') -> throws.IllegalArgumentException
            petition(0, 0, 'k') -> throws.IllegalArgumentException
            petition(0, 16, 'k') -> throws.IllegalArgumentException
            petition(0, 0, 'm') -> 0
            """);
        Runs.due(29, "if the person is dead", Runs.ONE + """
            petition(0, 0, 'm') -> 0
            die(0)
            petition(0, 0, 'm') -> throws.UnsupportedOperationException
            """);
        Runs.due(29, "Throws `IllegalStateException` if there are 20", Runs.THREE + """
            19 x petition(0, 0, 'm')
            petition(0, 0, 'm') -> 19
            petition(0, 0, 'm') -> throws.IllegalStateException
            petition(2, 15, 's') -> throws.IllegalStateException
            """);
    }

    /** Person 1 asks for the name of all others; petitions 0 and 1. */
    private static String asked(String persons) {
        return persons + "petition(1, 4, 'm')\npetition(1, 4, 'u')\n";
    }

    private static void promise30() {
        Runs.due(30, "Opposes a petition.", asked(Runs.FORTY) + """
            oppose(0, 7)
            days(30)
            decide(0) -> false
            decide(1) -> true
            """);
        String petition = "`petition`: the number of the petition";
        Runs.range(30, petition, Runs.FORTY, "oppose(%, 0)", 0, -1, Runs.BOUNDS);
        Runs.range(30, petition, asked(Runs.FORTY), "oppose(%, 0)", 0, 1, Runs.BOUNDS);
        Runs.range(30, petition, asked(Runs.FORTY) + "18 x petition(1, 4, 'm')\n", "oppose(%, 0)", 0, 19, Runs.BOUNDS);
        String three = "3 x birth(-1, -1, 'f', 4, 0)\n";
        Runs.range(30, "`by`: who opposes it", asked(three), "oppose(0, %)", 0, 2, Runs.BOUNDS);
        Runs.range(30, "`by`: who opposes it", asked(Runs.FORTY), "oppose(1, %)", 0, 39, Runs.BOUNDS);
        Runs.due(30, "Returns how many oppose it.", asked(Runs.FORTY) + """
            oppose(0, 39) -> 1
            oppose(1, 39) -> 1
            oppose(0, 7) -> 2
            oppose(0, 0) -> 3
            oppose(0, 0) -> throws.IllegalStateException
            oppose(0, 32) -> 4
            die(39)
            oppose(0, 8) -> 5
            """);
        Runs.due(30, "Returns how many oppose it.", asked(Runs.FORTY) + """
            oppose(0, 0) -> 1
            oppose(1, 0) -> 1
            oppose(1, 2) -> 2
            oppose(1, 31) -> 3
            oppose(1, 33) -> 4
            oppose(1, 34) -> 5
            """);
    }

    private static void promise30Throws() {
        Runs.due(30, "if there is no such petition or person", """
            oppose(0, 0) -> throws.IndexOutOfBoundsException
            3 x birth(-1, -1, 'f', 4, 0)
            oppose(0, 0) -> throws.IndexOutOfBoundsException
            petition(1, 4, 'm')
            oppose(1, 0) -> throws.IndexOutOfBoundsException
            oppose(-1, 0) -> throws.IndexOutOfBoundsException
            oppose(MIN, 0) -> throws.IndexOutOfBoundsException
            oppose(MAX, 0) -> throws.IndexOutOfBoundsException
            oppose(0, 3) -> throws.IndexOutOfBoundsException
            oppose(0, -1) -> throws.IndexOutOfBoundsException
            oppose(0, MIN) -> throws.IndexOutOfBoundsException
            oppose(0, MAX) -> throws.IndexOutOfBoundsException
            oppose(0, 0) -> 1
            """);
        Runs.due(30, "if it was decided, is for safety, or this one is dead, the same person, of another land, or has", """
            4 x birth(-1, -1, 'f', 4, 0)
            birth(-1, -1, 'f', 4, 1)
            birth(-1, -1, 'f', 5, 0)
            petition(0, 4, 'm') -> 0
            petition(0, 4, 's') -> 1
            petition(0, 4, 'u') -> 2
            petition(5, 4, 'u') -> 3
            petition(0, 5, 'u') -> 4
            oppose(1, 1) -> throws.UnsupportedOperationException
            oppose(0, 0) -> throws.UnsupportedOperationException
            oppose(0, 4) -> throws.UnsupportedOperationException
            oppose(0, 5) -> throws.UnsupportedOperationException
            oppose(4, 1) -> throws.UnsupportedOperationException
            oppose(4, 5) -> 1
            die(2)
            oppose(0, 2) -> throws.UnsupportedOperationException
            oppose(0, 3) -> 1
            days(30)
            oppose(0, 1) -> 2                   // as long as it is not decided
            decide(0) -> false
            oppose(0, 1) -> throws.UnsupportedOperationException
            decide(2) -> true
            oppose(2, 1) -> throws.UnsupportedOperationException
            setLimit(0, 2)
            move(3, 1, 0)
            move(3, 0, 0)
            oppose(3, 3) -> throws.UnsupportedOperationException      // er by now
            move(1, 1, 1)
            oppose(3, 1) -> throws.UnsupportedOperationException
            move(1, 0, 1)
            oppose(3, 1) -> 1
            """);
        Runs.due(30, "if this one opposes it already", """
            3 x birth(-1, -1, 'f', 4, 0)
            petition(1, 4, 'm')
            petition(1, 4, 'm')
            oppose(0, 0) -> 1
            oppose(0, 0) -> throws.IllegalStateException
            oppose(0, 2) -> 2
            oppose(0, 0) -> throws.IllegalStateException
            oppose(0, 2) -> throws.IllegalStateException
            oppose(1, 0) -> 1
            """);
    }

    private static void promise31() {
        Runs.due(31, "Decides a petition.", Runs.THREE + """
            petition(2, 0, 'u')
            petition(2, 1, 'u')
            days(30)
            decide(1)
            name(2, 'g') -> "bjorn"
            decide(0)
            name(2, 'g') -> "anna"
            name(2, 's') -> "bjornson"
            """);
        String petition = "`petition`: the number of the petition";
        Runs.range(31, petition, Runs.ONE, "decide(%)", 0, -1, Runs.BOUNDS);
        Runs.range(31, petition, Runs.ONE + "petition(0, 1, 'm')\ndays(30)\n", "decide(%)", 0, 0, Runs.BOUNDS);
        Runs.range(31, petition, Runs.ONE + "20 x petition(0, 1, 'm')\ndays(30)\n", "decide(%)", 0, 19, Runs.BOUNDS);
        Runs.due(31, "Returns whether it is granted.", """
            3 x birth(-1, -1, 'f', 0, 0)
            petition(0, 0, 'm') -> 0
            petition(0, 1, 'm') -> 1
            petition(0, 2, 's') -> 2
            petition(1, 3, 'u') -> 3
            petition(0, 4, 'u') -> 4
            oppose(0, 1) -> 1
            ban(0, 1, true)
            ban(1, 2, true)
            die(1)
            days(30)
            decide(0) -> false
            decide(1) -> false
            decide(2) -> true
            decide(3) -> false
            decide(4) -> true
            name(0, 'g') -> "erik"
            name(1, 'g') -> "anna"
            isSealed(0) -> true
            """);
        Runs.due(31, "if there is no such petition", Runs.ONE + """
            decide(0) -> throws.IndexOutOfBoundsException
            petition(0, 1, 'm')
            days(30)
            decide(1) -> throws.IndexOutOfBoundsException
            decide(-1) -> throws.IndexOutOfBoundsException
            decide(MIN) -> throws.IndexOutOfBoundsException
            decide(MAX) -> throws.IndexOutOfBoundsException
            decide(0) -> true
            """);
        Runs.due(31, "if it was decided, or 30 days have not gone by", Runs.ONE + """
            days(100)
            petition(0, 1, 's')
            decide(0) -> throws.UnsupportedOperationException
            days(29)
            decide(0) -> throws.UnsupportedOperationException
            petition(0, 2, 'm')
            days(1)
            decide(1) -> throws.UnsupportedOperationException
            decide(0) -> true
            decide(0) -> throws.UnsupportedOperationException
            days(28)
            decide(1) -> throws.UnsupportedOperationException
            days(1)
            ban(0, 2, true)
            decide(1) -> false
            decide(1) -> throws.UnsupportedOperationException
            """);
    }
}
