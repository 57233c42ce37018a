/** Promises 1 to 18, each row of the document at its edges. */
final class LifeEdges {
    private static final String NO_PERSON = "Throws `IndexOutOfBoundsException` if there is no such person";
    private static final String DEAD = "Throws `UnsupportedOperationException` if the person is dead";

    private LifeEdges() {
    }

    static void all() {
        promise1();
        promise2();
        promise3();
        promise4();
        promise5();
        promise6();
        promise7();
        promise7Throws();
        promise8();
        promise9();
        promise10();
        promise11();
        promise11Throws();
        promise12();
        promise13();
        promise14();
        promise15();
        promise16();
        promise17();
        promise18();
    }

    private static void promise1() {
        Runs.due(1, "Creates a register without persons, on the day 0.", """
            persons() -> 0
            isAlive(0) -> throws.IndexOutOfBoundsException
            records() -> 0
            isClosed(0) -> throws.IndexOutOfBoundsException
            decide(0) -> throws.IndexOutOfBoundsException
            cause(0) -> throws.NoSuchElementException
            sorted(0) -> throws.NoSuchElementException
            clusters() -> 0
            doubts() -> 0
            wrong() -> 0
            missed() -> 0
            print() -> 7
            isSound() -> true
            16 x bearers(%) -> 0
            fashion(MIN, MAX) -> throws.NoSuchElementException
            setSystem(3, 'd') -> 'm'
            birth(-1, -1, 'f', 9, 3) -> 0
            name(0, 's') -> "sun"
            fashion(0, 0) -> 9
            fashion(1, MAX) -> throws.NoSuchElementException
            fashion(MIN, -1) -> throws.NoSuchElementException
            days(1) -> 1
            setPrice(99) -> 12
            4 x setLimit(%, 1) -> 24
            4 x dropRules(%) -> 0
            4 x forbid(%, true) -> false
            4 x ban(%, 0, true) -> false
            4 x ban(%, 15, true) -> false
            """);
    }

    private static void promise2() {
        Runs.due(2, "Lets days go by.", """
            setSystem(0, 'd')
            birth(-1, -1, 'f', 0, 0)
            days(6)
            birth(-1, -1, 'f', 1, 0)
            days(1)
            birth(-1, -1, 'f', 2, 0)
            name(1, 's') -> "bath"
            name(2, 's') -> "sun"
            fashion(1, 6) -> 1
            fashion(7, 7) -> 2
            """);
        Runs.range(2, "how many, 1 to 999", "", "days(%)", 1, 999, Runs.ARGUMENT);
        Runs.due(2, "Returns the day then.", """
            days(1) -> 1
            days(999) -> 1000
            days(998) -> 1998
            days(2) -> 2000
            """ + "days(999)\n".repeat(507) + """
            days(1) -> 508494
            """);
        Runs.due(2, "if the number is out of range", """
            days(0) -> throws.IllegalArgumentException
            days(1000) -> throws.IllegalArgumentException
            days(-1) -> throws.IllegalArgumentException
            days(-999) -> throws.IllegalArgumentException
            days(MIN) -> throws.IllegalArgumentException
            days(MAX) -> throws.IllegalArgumentException
            days(1) -> 1
            """);
    }

    private static void promise3() {
        Runs.due(3, "Sets the system of a land, for those who are born from now on.", Runs.THREE + """
            setSystem(0, 'm')
            name(2, 's') -> "bjornson"
            birth(0, 1, 'm', 3, 0)
            name(3, 's') -> "annason"
            birth(0, 1, 'm', 3, 3)
            name(4, 's') -> "annason"
            setSystem(3, 'p')
            birth(0, 1, 'm', 3, 3)
            name(5, 's') -> "bjornson"
            name(4, 's') -> "annason"
            """);
        Runs.range(3, "the land, 0 to 3", "", "setSystem(%, 'p')", 0, 3, Runs.ARGUMENT);
        Runs.signs(3, "'p', 'm', 'i', 'c' or 'd'", "", "setSystem(0, %)", "pmicd", Runs.ARGUMENT);
        Runs.due(3, "Returns the one before.", """
            setSystem(0, 'd') -> 'p'
            setSystem(0, 'd') -> 'd'
            setSystem(0, 'c') -> 'd'
            setSystem(0, 'i') -> 'c'
            setSystem(0, 'm') -> 'i'
            setSystem(0, 'p') -> 'm'
            setSystem(3, 'p') -> 'm'
            """);
        Runs.due(3, "if there is no such land or system", """
            setSystem(-1, 'p') -> throws.IllegalArgumentException
            setSystem(4, 'p') -> throws.IllegalArgumentException
            setSystem(MIN, 'p') -> throws.IllegalArgumentException
            setSystem(MAX, 'p') -> throws.IllegalArgumentException
            setSystem(0, 'k') -> throws.IllegalArgumentException
            setSystem(4, 'k') -> throws.IllegalArgumentException
            setSystem(0, 'p') -> 'p'
            """);
    }

    private static void promise4() {
        Runs.due(4, "Sets the rule of marriages of a land.", """
            birth(-1, -1, 'f', 0, 2)
            birth(-1, -1, 'm', 1, 2)
            birth(-1, -1, 'm', 2, 2)
            setMarriage(1, 'k')
            setMarriage(2, 'h')
            marry(0, 1) -> 2
            die(1)
            setMarriage(2, 'k')
            name(0, 's') -> "bergan-lundan"
            marry(2, 0) -> 0
            """);
        Runs.range(4, "the land, 0 to 3", "", "setMarriage(%, 'k')", 0, 3, Runs.ARGUMENT);
        Runs.signs(4, "'k', 'm', 't' or 'h'", "", "setMarriage(0, %)", "kmth", Runs.ARGUMENT);
        Runs.due(4, "Returns the one before.", """
            setMarriage(0, 'h') -> 'k'
            setMarriage(0, 'h') -> 'h'
            setMarriage(0, 't') -> 'h'
            setMarriage(0, 'm') -> 't'
            setMarriage(0, 'k') -> 'm'
            setMarriage(3, 'k') -> 'h'
            """);
        Runs.due(4, "if there is no such land or rule", """
            setMarriage(-1, 'k') -> throws.IllegalArgumentException
            setMarriage(4, 'k') -> throws.IllegalArgumentException
            setMarriage(MIN, 'k') -> throws.IllegalArgumentException
            setMarriage(MAX, 'k') -> throws.IllegalArgumentException
            setMarriage(0, 'p') -> throws.IllegalArgumentException
            setMarriage(4, 'p') -> throws.IllegalArgumentException
            setMarriage(0, 'k') -> 'k'
            """);
    }

    private static void promise5() {
        Runs.due(5, "Bans a given name, or allows it.", """
            ban(0, 0, true)
            ban(0, 15, true)
            birth(-1, -1, 'f', 0, 0) -> throws.UnsupportedOperationException
            birth(-1, -1, 'f', 15, 0) -> throws.UnsupportedOperationException
            birth(-1, -1, 'f', 1, 0) -> 0
            birth(-1, -1, 'f', 14, 0) -> 1
            birth(-1, -1, 'f', 0, 1) -> 2
            ban(0, 0, false)
            birth(-1, -1, 'f', 0, 0) -> 3
            birth(-1, -1, 'f', 15, 0) -> throws.UnsupportedOperationException
            """);
        Runs.range(5, "the land, 0 to 3", "", "ban(%, 0, true)", 0, 3, Runs.ARGUMENT);
        Runs.range(5, "the number of the given name, 0 to 15", "", "ban(0, %, true)", 0, 15, Runs.ARGUMENT);
        Runs.range(5, "the number of the given name, 0 to 15", "", "ban(3, %, false)", 0, 15, Runs.ARGUMENT);
        Runs.due(5, "`isBanned`: whether it is banned", """
            ban(0, 3, false)
            birth(-1, -1, 'f', 3, 0) -> 0
            ban(0, 3, true)
            ban(0, 3, true)
            birth(-1, -1, 'f', 3, 0) -> throws.UnsupportedOperationException
            ban(0, 3, false)
            birth(-1, -1, 'f', 3, 0) -> 1
            """);
        Runs.due(5, "Returns whether it was banned.", """
            ban(1, 15, false) -> false
            ban(1, 15, true) -> false
            ban(1, 15, true) -> true
            ban(1, 0, true) -> false
            ban(1, 14, true) -> false
            ban(2, 15, true) -> false
            ban(1, 15, false) -> true
            ban(1, 15, false) -> false
            ban(1, 0, false) -> true
            """);
        Runs.due(5, "if there is no such land or name", """
            ban(-1, 0, true) -> throws.IllegalArgumentException
            ban(4, 0, true) -> throws.IllegalArgumentException
            ban(0, -1, true) -> throws.IllegalArgumentException
            ban(0, 16, true) -> throws.IllegalArgumentException
            ban(4, 16, false) -> throws.IllegalArgumentException
            ban(MIN, MAX, true) -> throws.IllegalArgumentException
            ban(0, MIN, true) -> throws.IllegalArgumentException
            """);
    }

    private static void promise6() {
        Runs.due(6, "Sets whether names may be given twice.", Runs.THREE + """
            birth(0, 1, 'm', 3, 0) -> 3
            forbid(0, true)
            birth(0, 1, 'm', 3, 0) -> throws.UnsupportedOperationException
            birth(0, 1, 'm', 3, 1) -> 4
            forbid(0, false)
            birth(0, 1, 'm', 3, 0) -> 5
            """);
        Runs.range(6, "the land, 0 to 3", "", "forbid(%, true)", 0, 3, Runs.ARGUMENT);
        Runs.due(6, "`isForbidden`: whether a land forbids names of living children", Runs.THREE + """
            forbid(3, false)
            birth(0, 1, 'm', 3, 3) -> 3
            forbid(3, true)
            forbid(3, true)
            birth(0, -1, 'm', 3, 3) -> throws.UnsupportedOperationException
            birth(-1, 1, 'm', 3, 3) -> throws.UnsupportedOperationException
            die(2)
            birth(-1, 1, 'm', 3, 3) -> throws.UnsupportedOperationException
            die(3)
            birth(-1, 1, 'm', 3, 3) -> 4
            """);
        Runs.due(6, "Returns whether it was forbidden.", """
            forbid(1, false) -> false
            forbid(1, true) -> false
            forbid(1, true) -> true
            forbid(2, true) -> false
            forbid(1, false) -> true
            forbid(1, false) -> false
            """);
        Runs.due(6, "if there is no such land", """
            forbid(-1, true) -> throws.IllegalArgumentException
            forbid(4, true) -> throws.IllegalArgumentException
            forbid(MIN, false) -> throws.IllegalArgumentException
            forbid(MAX, true) -> throws.IllegalArgumentException
            """);
    }

    private static void promise7() {
        Runs.due(7, "Tells of a birth.", """
            persons() -> 0
            birth(-1, -1, 'f', 0, 3) -> 0
            persons() -> 1
            isAlive(0) -> true
            landOf(0) -> 3
            isSealed(0) -> false
            changes(0) -> 0
            spouse(0) -> throws.NoSuchElementException
            name(0, 'f') -> "anna"
            """);
        String births = "39 x birth(-1, -1, 'm', 4, 0)\n";
        Runs.range(7, "`mother`: the mother, or -1", "", "birth(%, -1, 'f', 0, 0)", -1, -1, Runs.BOUNDS);
        Runs.range(7, "`mother`: the mother, or -1", Runs.ONE, "birth(%, -1, 'f', 0, 0)", -1, 0, Runs.BOUNDS);
        Runs.range(7, "`mother`: the mother, or -1", births, "birth(%, 7, 'f', 0, 0)", -1, 38, Runs.BOUNDS);
        Runs.range(7, "`father`: the father, or -1", "", "birth(-1, %, 'f', 0, 0)", -1, -1, Runs.BOUNDS);
        Runs.range(7, "`father`: the father, or -1", Runs.ONE, "birth(-1, %, 'f', 0, 0)", -1, 0, Runs.BOUNDS);
        Runs.range(7, "`father`: the father, or -1", births, "birth(7, %, 'f', 0, 0)", -1, 38, Runs.BOUNDS);
        Runs.signs(7, "'m' or 'f'", Runs.ONE, "birth(0, -1, %, 0, 0)", "mf", Runs.ARGUMENT);
        String given = "the number of the given name, 0 to 15";
        Runs.range(7, given, Runs.ONE, "birth(0, -1, 'm', %, 0)", 0, 15, Runs.ARGUMENT);
        Runs.range(7, "the land, 0 to 3", Runs.ONE, "birth(-1, 0, 'm', 0, %)", 0, 3, Runs.ARGUMENT);
        Runs.due(7, "Returns the number of the person.", """
            birth(-1, -1, 'f', 0, 0) -> 0
            birth(0, -1, 'f', 16, 0) -> throws.IllegalArgumentException
            birth(0, -1, 'f', 0, 0) -> 1
            ban(0, 0, true)
            birth(0, -1, 'f', 0, 0) -> throws.UnsupportedOperationException
            birth(1, 0, 'f', 1, 0) -> 2
            die(2)
            37 x birth(2, 0, 'f', 1, 0)
            persons() -> 40
            name(39, 's') -> "annadot"
            """);
    }

    private static void promise7Throws() {
        Runs.due(7, "if a mother or father is neither a person nor -1", """
            birth(0, -1, 'f', 0, 0) -> throws.IndexOutOfBoundsException
            birth(-1, 0, 'f', 0, 0) -> throws.IndexOutOfBoundsException
            birth(-2, -1, 'f', 0, 0) -> throws.IndexOutOfBoundsException
            birth(-1, -2, 'f', 0, 0) -> throws.IndexOutOfBoundsException
            birth(MIN, MIN, 'f', 0, 0) -> throws.IndexOutOfBoundsException
            birth(-1, MAX, 'f', 0, 0) -> throws.IndexOutOfBoundsException
            birth(-1, -1, 'f', 0, 0) -> 0
            birth(0, -1, 'f', 0, 0) -> 1
            birth(0, 2, 'f', 0, 0) -> throws.IndexOutOfBoundsException
            birth(2, 0, 'f', 0, 0) -> throws.IndexOutOfBoundsException
            birth(1, 0, 'f', 0, 0) -> 2
            """);
        Runs.due(7, "if there is no such sex, name or land, or both are the same person", """
            birth(-1, -1, 'M', 0, 0) -> throws.IllegalArgumentException
            birth(-1, -1, 'f', -1, 0) -> throws.IllegalArgumentException
            birth(-1, -1, 'f', 16, 0) -> throws.IllegalArgumentException
            birth(-1, -1, 'f', 0, -1) -> throws.IllegalArgumentException
            birth(-1, -1, 'f', 0, 4) -> throws.IllegalArgumentException
            birth(-1, -1, 'f', MIN, MAX) -> throws.IllegalArgumentException
            birth(-1, -1, 'f', 0, 0) -> 0         // none and none are not the same person
            birth(0, 0, 'f', 0, 0) -> throws.IllegalArgumentException
            birth(0, -1, 'f', 0, 0) -> 1
            birth(1, 1, 'f', 0, 0) -> throws.IllegalArgumentException
            birth(1, 0, 'f', 0, 0) -> 2
            """);
        Runs.due(7, "Throws `IllegalStateException` if there are 40", """
            39 x birth(-1, -1, 'f', 0, 0)
            birth(0, 1, 'f', 0, 0) -> 39
            birth(0, 1, 'f', 0, 0) -> throws.IllegalStateException
            birth(-1, -1, 'f', 0, 0) -> throws.IllegalStateException
            birth(39, 38, 'm', 15, 3) -> throws.IllegalStateException
            """);
        Runs.due(7, "Throws `UnsupportedOperationException` if it is refused", Runs.THREE + """
            ban(0, 15, true)
            forbid(0, true)
            birth(-1, -1, 'm', 15, 0) -> throws.UnsupportedOperationException
            birth(0, 1, 'm', 3, 0) -> throws.UnsupportedOperationException
            birth(0, -1, 'm', 3, 0) -> throws.UnsupportedOperationException
            birth(-1, 1, 'm', 3, 0) -> throws.UnsupportedOperationException
            persons() -> 3
            birth(-1, -1, 'm', 3, 0) -> 3
            birth(1, 0, 'm', 3, 0) -> 4           // neither the same mother nor the same father
            birth(-1, -1, 'm', 15, 3) -> 5
            """);
    }

    /** What a land bans and forbids, and a birth that it refuses for both. */
    private static final String REFUSED = """
        birth(-1, -1, 'f', 0, 3)
        birth(0, -1, 'f', 15, 3)
        forbid(3, true)
        ban(3, 15, true)
        birth(0, -1, 'f', 15, 3) -> throws.UnsupportedOperationException
        """;

    private static void promise8() {
        Runs.due(8, "Returns a cause of why a birth was refused last.", REFUSED + """
            cause(0) -> 'b'
            ban(3, 15, false)
            cause(0) -> 'b'
            birth(0, -1, 'f', 15, 3) -> throws.UnsupportedOperationException
            cause(0) -> 'l'
            birth(0, -1, 'f', 14, 3) -> 2
            die(1)
            cause(0) -> 'l'
            """);
        Runs.range(8, "how deep, 0 for the first one", "", "cause(%)", 0, -1, Runs.ELEMENT);
        Runs.range(8, "how deep, 0 for the first one", "ban(0, 0, true)\n", "cause(%)", 0, -1, Runs.ELEMENT);
        Runs.range(8, "how deep, 0 for the first one", REFUSED, "cause(%)", 0, 1, Runs.ELEMENT);
        Runs.due(8, "Returns its letter.", REFUSED + """
            cause(0) -> 'b'
            cause(1) -> 'n'
            """);
        Runs.due(8, "if there is no cause so deep", """
            cause(0) -> throws.NoSuchElementException
            cause(1) -> throws.NoSuchElementException
            cause(-1) -> throws.NoSuchElementException
            birth(-1, -1, 'f', 16, 0) -> throws.IllegalArgumentException
            cause(0) -> throws.NoSuchElementException
            """ + REFUSED + """
            cause(2) -> throws.NoSuchElementException
            cause(-1) -> throws.NoSuchElementException
            cause(MIN) -> throws.NoSuchElementException
            cause(MAX) -> throws.NoSuchElementException
            """);
    }

    private static void promise9() {
        Runs.due(9, "`int causeNumber(int depth) throws NoSuchElementException`: Returns", REFUSED + """
            causeNumber(0) -> 3
            ban(3, 15, false)
            birth(0, -1, 'f', 15, 3) -> throws.UnsupportedOperationException
            causeNumber(0) -> 1
            """);
        Runs.range(9, "how deep, 0 for the first one", "", "causeNumber(%)", 0, -1, Runs.ELEMENT);
        Runs.range(9, "how deep, 0 for the first one", REFUSED, "causeNumber(%)", 0, 1, Runs.ELEMENT);
        Runs.due(9, "Returns the number.", REFUSED + """
            causeNumber(0) -> 3
            causeNumber(1) -> 15
            ban(0, 0, true)
            birth(-1, -1, 'f', 0, 0) -> throws.UnsupportedOperationException
            causeNumber(0) -> 0
            causeNumber(1) -> 0
            """);
        Runs.due(9, "if there is no cause so deep", """
            causeNumber(0) -> throws.NoSuchElementException
            causeNumber(1) -> throws.NoSuchElementException
            """ + REFUSED + """
            causeNumber(2) -> throws.NoSuchElementException
            causeNumber(-1) -> throws.NoSuchElementException
            causeNumber(MIN) -> throws.NoSuchElementException
            causeNumber(MAX) -> throws.NoSuchElementException
            """);
    }

    private static void promise10() {
        Runs.due(10, "Tells of a death.", Runs.THREE + """
            die(2)
            isAlive(2) -> false
            isAlive(0) -> true
            persons() -> 3
            name(2, 'f') -> "david bjornson"
            """);
        Runs.persons(10, "`person`: the number of the person", "", "die(%)");
        Runs.due(10, "Returns whether the person was married.", Runs.THREE + """
            marry(0, 1)
            die(2) -> false
            die(1) -> true
            die(0) -> false
            """);
        Runs.due(10, NO_PERSON, """
            die(0) -> throws.IndexOutOfBoundsException
            birth(-1, -1, 'f', 0, 0)
            die(1) -> throws.IndexOutOfBoundsException
            die(-1) -> throws.IndexOutOfBoundsException
            die(MIN) -> throws.IndexOutOfBoundsException
            die(MAX) -> throws.IndexOutOfBoundsException
            die(0) -> false
            """);
        Runs.due(10, DEAD, Runs.THREE + """
            marry(0, 1)
            die(0) -> true
            die(0) -> throws.UnsupportedOperationException
            die(1) -> false
            die(1) -> throws.UnsupportedOperationException
            die(2) -> false
            die(2) -> throws.UnsupportedOperationException
            """);
    }

    private static void promise11() {
        Runs.due(11, "Tells of a marriage.", Runs.THREE + """
            marry(2, 0) -> 0
            spouse(0) -> 2
            spouse(2) -> 0
            spouse(1) -> throws.NoSuchElementException
            """);
        Runs.range(11, "`one`: the first one", "", "marry(%, 0)", 0, -1, Runs.BOUNDS);
        Runs.range(11, "`one`: the first one", Runs.THREE, "marry(%, 1)", 0, 2, Runs.BOUNDS);
        Runs.range(11, "`one`: the first one", Runs.FORTY, "marry(%, 1)", 0, 39, Runs.BOUNDS);
        Runs.range(11, "`other`: the second one", "", "marry(0, %)", 0, -1, Runs.BOUNDS);
        Runs.range(11, "`other`: the second one", Runs.THREE, "marry(1, %)", 0, 2, Runs.BOUNDS);
        Runs.range(11, "`other`: the second one", Runs.FORTY, "marry(1, %)", 0, 39, Runs.BOUNDS);
        String changed = "Returns how many second names become other ones.";
        Runs.due(11, changed, """
            setMarriage(0, 't')
            birth(-1, -1, 'f', 0, 0)
            birth(-1, -1, 'm', 1, 0)
            birth(0, -1, 'f', 2, 0)
            birth(0, -1, 'f', 3, 0)
            birth(0, -1, 'm', 3, 0)
            marry(0, 1) -> 0              // both are empty
            marry(2, 3) -> 0              // both are annadot
            die(2)
            marry(3, 4) -> 1
            name(4, 's') -> "annadot"
            die(0)
            die(4)
            marry(1, 3) -> 1
            name(3, 's') -> ""
            """);
        Runs.due(11, changed, """
            setMarriage(0, 'm')
            birth(-1, -1, 'f', 0, 2)
            birth(-1, -1, 'f', 1, 0)
            birth(-1, -1, 'm', 2, 0)
            birth(-1, -1, 'm', 3, 2)
            marry(1, 2) -> 0              // she takes his, both are empty
            changes(1) -> 0
            setMarriage(2, 'h')
            marry(0, 3) -> 2
            changes(0) -> 1
            changes(3) -> 1
            die(0)
            die(2)
            marry(1, 3) -> 1              // by the rule of land 0
            name(1, 's') -> "strandan-bergan"
            changes(1) -> 1
            """);
    }

    private static void promise11Throws() {
        Runs.due(11, NO_PERSON + ", for either", """
            marry(0, 0) -> throws.IndexOutOfBoundsException
            birth(-1, -1, 'f', 0, 0)
            marry(0, 1) -> throws.IndexOutOfBoundsException
            marry(1, 0) -> throws.IndexOutOfBoundsException
            marry(-1, 0) -> throws.IndexOutOfBoundsException
            marry(0, -1) -> throws.IndexOutOfBoundsException
            marry(MIN, 0) -> throws.IndexOutOfBoundsException
            marry(0, MAX) -> throws.IndexOutOfBoundsException
            birth(-1, -1, 'f', 0, 0)
            marry(0, 1) -> 0
            """);
        Runs.due(11, "if both are the same, or one is dead or married", """
            6 x birth(-1, -1, 'f', 0, 0)
            marry(0, 0) -> throws.UnsupportedOperationException
            marry(0, 1) -> 0
            marry(0, 1) -> throws.UnsupportedOperationException
            marry(1, 0) -> throws.UnsupportedOperationException
            marry(0, 2) -> throws.UnsupportedOperationException
            marry(2, 0) -> throws.UnsupportedOperationException
            marry(2, 1) -> throws.UnsupportedOperationException
            marry(1, 1) -> throws.UnsupportedOperationException
            die(3)
            marry(2, 3) -> throws.UnsupportedOperationException
            marry(3, 2) -> throws.UnsupportedOperationException
            marry(3, 3) -> throws.UnsupportedOperationException
            die(0)
            marry(1, 0) -> throws.UnsupportedOperationException
            marry(1, 2) -> 0
            spouse(2) -> 1
            """);
    }

    private static void promise12() {
        Runs.due(12, "Returns to whom a person is married.", Runs.FORTY + """
            marry(0, 39)
            marry(20, 19)
            spouse(0) -> 39
            spouse(39) -> 0
            spouse(19) -> 20
            spouse(20) -> 19
            """);
        String couple = Runs.ONE + Runs.ONE + "marry(0, 1)\n";
        Runs.range(12, "`person`: the number of the person", "", "spouse(%)", 0, -1, Runs.BOUNDS);
        Runs.range(12, "`person`: the number of the person", couple, "spouse(%)", 0, 1, Runs.BOUNDS);
        Runs.range(12, "`person`: the number of the person", Runs.FORTY + "marry(0, 39)\n", "spouse(%)", 0, 39, Runs.BOUNDS);
        Runs.due(12, "Returns the number of the person.", couple + """
            spouse(0) -> 1
            spouse(1) -> 0
            die(0)
            birth(-1, -1, 'f', 0, 0)
            marry(2, 1)
            spouse(1) -> 2
            spouse(2) -> 1
            """);
        Runs.due(12, NO_PERSON, couple + """
            spouse(2) -> throws.IndexOutOfBoundsException
            spouse(-1) -> throws.IndexOutOfBoundsException
            spouse(MIN) -> throws.IndexOutOfBoundsException
            spouse(MAX) -> throws.IndexOutOfBoundsException
            """);
        Runs.due(12, "Throws `NoSuchElementException` if to nobody", couple + """
            birth(-1, -1, 'f', 0, 0)
            spouse(2) -> throws.NoSuchElementException
            die(0)
            spouse(0) -> throws.NoSuchElementException
            spouse(1) -> throws.NoSuchElementException
            marry(1, 2)
            spouse(0) -> throws.NoSuchElementException
            spouse(1) -> 2
            """);
    }

    /** Person 3 has the by-name 1, which persons 0 to 2 have told. */
    private static final String STICKING = "5 x birth(-1, -1, 'f', 0, 0)\ndeed(3, 1)\n3 x tell(%, 3)\n";

    private static void promise13() {
        Runs.due(13, "Tells of a deed.", STICKING + """
            deed(4, 2)
            name(4, 'b') -> ""
            3 x tell(%, 4)
            name(4, 'b') -> "wise"
            name(3, 'b') -> "tall"
            """);
        Runs.persons(13, "`person`: the number of the person", "", "deed(%, 0)");
        Runs.range(13, "the by-name, 0 to 3", Runs.ONE, "deed(0, %)", 0, 3, Runs.ARGUMENT);
        Runs.due(13, "Returns the by-name before, -1 for none.", Runs.ONE + """
            deed(0, 0) -> -1
            deed(0, 3) -> 0
            deed(0, 3) -> 3
            deed(0, 0) -> 3
            deed(0, 1) -> 0
            deed(0, 2) -> 1
            """);
        Runs.due(13, NO_PERSON, """
            deed(0, 0) -> throws.IndexOutOfBoundsException
            birth(-1, -1, 'f', 0, 0)
            deed(1, 0) -> throws.IndexOutOfBoundsException
            deed(-1, 0) -> throws.IndexOutOfBoundsException
            deed(MIN, 0) -> throws.IndexOutOfBoundsException
            deed(MAX, 0) -> throws.IndexOutOfBoundsException
            deed(0, 0) -> -1
            """);
        Runs.due(13, "if there is no such by-name", Runs.ONE + """
            deed(0, -1) -> throws.IllegalArgumentException
            deed(0, 4) -> throws.IllegalArgumentException
            deed(0, MIN) -> throws.IllegalArgumentException
            deed(0, MAX) -> throws.IllegalArgumentException
            deed(0, 0) -> -1
            """);
        Runs.due(13, DEAD, Runs.ONE + """
            deed(0, 2) -> -1
            die(0)
            deed(0, 0) -> throws.UnsupportedOperationException
            """);
        Runs.due(13, "Throws `IllegalStateException` if one sticks", STICKING + """
            deed(3, 0) -> throws.IllegalStateException
            deed(3, 1) -> throws.IllegalStateException
            deed(4, 0) -> -1
            tell(0, 4) -> 1
            tell(1, 4) -> 2
            deed(4, 1) -> 0                  // two do not make it stick
            tell(0, 4) -> 1
            tell(1, 4) -> 2
            tell(2, 4) -> 3
            deed(4, 2) -> throws.IllegalStateException
            """);
    }

    private static void promise14() {
        Runs.due(14, "Lets a person tell a by-name of another one.", STICKING + """
            name(3, 'f') -> "anna tall"
            name(0, 'f') -> "anna"
            """);
        String told = "deed(1, 0)\n";
        Runs.range(14, "`teller`: who tells it", "", "tell(%, 0)", 0, -1, Runs.BOUNDS);
        Runs.range(14, "`teller`: who tells it", Runs.THREE + told, "tell(%, 1)", 0, 2, Runs.BOUNDS);
        Runs.range(14, "`teller`: who tells it", Runs.FORTY + told, "tell(%, 1)", 0, 39, Runs.BOUNDS);
        String ends = Runs.THREE + "deed(0, 0)\ndeed(2, 0)\n";
        Runs.range(14, "`person`: the number of the person", "", "tell(0, %)", 0, -1, Runs.BOUNDS);
        Runs.range(14, "`person`: the number of the person", ends, "tell(1, %)", 0, 2, Runs.BOUNDS);
        Runs.range(14, "`person`: the number of the person", Runs.FORTY + "deed(0, 0)\ndeed(39, 0)\n", "tell(1, %)",
                0, 39, Runs.BOUNDS);
        Runs.due(14, "Returns how many unlike ones have told it.", Runs.FORTY + """
            deed(0, 0)
            tell(1, 0) -> 1
            tell(1, 0) -> 1
            tell(39, 0) -> 2
            tell(39, 0) -> 2
            """ + "39 x tell(39, 0)\n39 x tell(1, 0)\ntell(7, 0) -> 3\ntell(1, 0) -> 3\n" + """
            deed(39, 0)
            39 x tell(%, 39)
            tell(0, 39) -> 39
            """);
        Runs.due(14, NO_PERSON + ", for either", """
            tell(0, 0) -> throws.IndexOutOfBoundsException
            birth(-1, -1, 'f', 0, 0)
            deed(0, 0)
            tell(1, 0) -> throws.IndexOutOfBoundsException
            tell(0, 1) -> throws.IndexOutOfBoundsException
            tell(-1, 0) -> throws.IndexOutOfBoundsException
            tell(0, -1) -> throws.IndexOutOfBoundsException
            tell(MAX, 0) -> throws.IndexOutOfBoundsException
            tell(0, MIN) -> throws.IndexOutOfBoundsException
            tell(64, 0) -> throws.IndexOutOfBoundsException
            """);
        Runs.due(14, "if one is dead, both are the same, or the other one has no by-name", """
            6 x birth(-1, -1, 'f', 0, 0)
            tell(1, 0) -> throws.UnsupportedOperationException
            deed(1, 0)
            tell(1, 0) -> throws.UnsupportedOperationException
            deed(0, 0)
            tell(0, 0) -> throws.UnsupportedOperationException
            tell(1, 0) -> 1
            die(2)
            tell(2, 0) -> throws.UnsupportedOperationException
            die(1)
            tell(3, 1) -> throws.UnsupportedOperationException
            tell(2, 1) -> throws.UnsupportedOperationException
            tell(1, 0) -> throws.UnsupportedOperationException
            tell(3, 0) -> 2
            tell(4, 0) -> 3
            tell(0, 0) -> throws.UnsupportedOperationException
            """);
    }

    private static void promise15() {
        Runs.due(15, "Lets a person move.", Runs.THREE + """
            move(2, 3, 0)
            landOf(2) -> 3
            landOf(0) -> 0
            move(2, 0, 3)
            landOf(2) -> 0
            """);
        Runs.persons(15, "`person`: the number of the person", "", "move(%, 1, 0)");
        Runs.range(15, "the land, 0 to 3", "birth(-1, -1, 'f', 0, 1)\n", "move(0, %, 0)", 0, 3, Runs.ARGUMENT);
        Runs.range(15, "the clerk, 0 to 3", Runs.ONE, "move(0, 1, %)", 0, 3, Runs.ARGUMENT);
        Runs.due(15, "Returns how many of both names become other ones.", Runs.THREE + """
            addRule(0, 'v', ' ', 'w', ' ')
            addRule(0, 's', ' ', 'z', ' ')
            addRule(1, 'j', ' ', 'y', ' ')
            addRule(2, 'a', ' ', 'o', ' ')
            addRule(3, 'q', ' ', 'o', ' ')
            move(2, 1, 3) -> 0
            changes(2) -> 0
            move(2, 0, 2) -> 1
            move(2, 1, 1) -> 1
            move(2, 0, 0) -> 2
            changes(2) -> 3
            name(2, 'f') -> "dowid byornzon"
            move(0, 1, 2) -> 1
            name(0, 's') -> ""
            """);
        Runs.due(15, NO_PERSON, """
            move(0, 1, 0) -> throws.IndexOutOfBoundsException
            birth(-1, -1, 'f', 0, 0)
            move(1, 1, 0) -> throws.IndexOutOfBoundsException
            move(-1, 1, 0) -> throws.IndexOutOfBoundsException
            move(MIN, 1, 0) -> throws.IndexOutOfBoundsException
            move(MAX, 1, 0) -> throws.IndexOutOfBoundsException
            move(0, 1, 0) -> 0
            """);
        Runs.due(15, "if there is no such land or clerk, or the person is there already", Runs.ONE + """
            move(0, -1, 0) -> throws.IllegalArgumentException
            move(0, 4, 0) -> throws.IllegalArgumentException
            move(0, MIN, 0) -> throws.IllegalArgumentException
            move(0, MAX, 0) -> throws.IllegalArgumentException
            move(0, 1, -1) -> throws.IllegalArgumentException
            move(0, 1, 4) -> throws.IllegalArgumentException
            move(0, 1, MIN) -> throws.IllegalArgumentException
            move(0, 1, MAX) -> throws.IllegalArgumentException
            move(0, 0, 0) -> throws.IllegalArgumentException
            move(0, 3, 0) -> 0
            move(0, 3, 0) -> throws.IllegalArgumentException
            move(0, 0, 0) -> 0
            """);
        Runs.due(15, DEAD, Runs.ONE + """
            setLimit(0, 1)
            die(0)
            move(0, 1, 0) -> throws.UnsupportedOperationException
            landOf(0) -> 0
            name(0, 'g') -> "anna"
            """);
    }

    private static void promise16() {
        Runs.due(16, "Returns whether a person is alive.", Runs.FORTY + """
            isAlive(0) -> true
            isAlive(39) -> true
            die(39)
            isAlive(39) -> false
            isAlive(38) -> true
            die(0)
            isAlive(0) -> false
            """);
        Runs.persons(16, "`person`: the number of the person", "", "isAlive(%)");
        Runs.due(16, "Returns true if so.", Runs.ONE + """
            isAlive(0) -> true
            die(0)
            isAlive(0) -> false
            """);
        Runs.due(16, NO_PERSON, """
            isAlive(0) -> throws.IndexOutOfBoundsException
            birth(-1, -1, 'f', 0, 0)
            isAlive(-1) -> throws.IndexOutOfBoundsException
            isAlive(1) -> throws.IndexOutOfBoundsException
            isAlive(MIN) -> throws.IndexOutOfBoundsException
            isAlive(MAX) -> throws.IndexOutOfBoundsException
            """);
    }

    private static void promise17() {
        Runs.due(17, "Returns the land of a person.", "4 x birth(-1, -1, 'f', 0, %)\n" + """
            4 x landOf(%) -> %
            move(0, 3, 0)
            landOf(0) -> 3
            die(0)
            landOf(0) -> 3
            """);
        Runs.persons(17, "`person`: the number of the person", "", "landOf(%)");
        Runs.due(17, "Returns the land.", """
            birth(-1, -1, 'f', 0, 3)
            landOf(0) -> 3
            move(0, 0, 0)
            landOf(0) -> 0
            """);
        Runs.due(17, NO_PERSON, """
            landOf(0) -> throws.IndexOutOfBoundsException
            birth(-1, -1, 'f', 0, 0)
            landOf(-1) -> throws.IndexOutOfBoundsException
            landOf(1) -> throws.IndexOutOfBoundsException
            landOf(MIN) -> throws.IndexOutOfBoundsException
            landOf(MAX) -> throws.IndexOutOfBoundsException
            """);
    }

    private static void promise18() {
        Runs.due(18, "Returns how many persons there were.", Runs.THREE + """
            persons() -> 3
            die(0)
            die(1)
            die(2)
            persons() -> 3
            """);
        Runs.due(18, "Returns the number of persons.", """
            persons() -> 0
            birth(0, -1, 'f', 0, 0) -> throws.IndexOutOfBoundsException
            persons() -> 0
            39 x birth(-1, -1, 'f', 0, 0)
            persons() -> 39
            birth(-1, -1, 'f', 0, 0)
            persons() -> 40
            birth(-1, -1, 'f', 0, 0) -> throws.IllegalStateException
            persons() -> 40
            """);
    }
}
