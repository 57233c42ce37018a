/** What the Terms say of persons, names, laws, marriages, by-names, clerks, moves and petitions, at its edges. */
final class TermsEdges {
    private static final int TERMS = Sentences.TERMS;

    private TermsEdges() {
    }

    static void all() {
        calls();
        names();
        persons();
        fathersNames();
        mothersNames();
        inheritedNames();
        clanNames();
        dayNames();
        longestNames();
        laws();
        marriages();
        byNames();
        clerks();
        moves();
        petitions();
    }

    private static void due(String sentence, String lines) {
        Runs.due(TERMS, sentence, lines);
    }

    private static void calls() {
        // 504 moves, each a change, and eight other calls.
        due("An object is used for at most 512 calls after it has been made", """
            birth(-1, -1, 'm', 3, 0)
            addRule(0, 'd', ' ', 't', ' ')
            addRule(1, 't', ' ', 'd', ' ')
            """ + "move(0, 1, 0) -> 1\nmove(0, 0, 1) -> 1\n".repeat(252) + """
            changes(0) -> 504
            wasCalled(0, 503, 0) -> 't'
            wasCalled(0, 502, 4) -> 'd'
            print() -> 9168641747
            letter(0, 'g', 4) -> 'd'
            """);
    }

    private static void names() {
        due("Each printed name follows from the person's system and the clerk's table.", """
            birth(-1, -1, 'f', 0, 0)
            birth(0, -1, 'm', 3, 0)
            record(1, 0, 0)
            addRule(0, 'a', ' ', 'o', ' ')
            record(1, 0, 0)
            text(0, false) -> "david"
            text(0, true) -> "annason"
            text(1, false) -> "dovid"
            text(1, true) -> "onnoson"
            """);
        String[] given = {"anna", "bjorn", "carla", "david", "erik", "freya", "gunnar", "hanna", "ivar", "jon", "karin",
            "lars", "maria", "nils", "olga", "pal"};
        StringBuilder lines = new StringBuilder("birth(-1, -1, 'f', -1, 0) -> throws.IllegalArgumentException\n");
        lines.append("birth(-1, -1, 'f', 16, 0) -> throws.IllegalArgumentException\n");
        lines.append("16 x birth(-1, -1, 'f', %, 0) -> %\n");
        for (int i = 0; i < given.length; i++) {
            lines.append("name(" + i + ", 'g') -> \"" + given[i] + "\"\n");
        }
        due("Given names have numbers 0 to 15", lines.toString());
        due("Houses have numbers 0 to 7", """
            17 x birth(-1, -1, 'f', 0, 2)
            name(0, 's') -> "bergan"
            name(1, 's') -> "lundan"
            name(2, 's') -> "holman"
            name(3, 's') -> "strandan"
            name(4, 's') -> "dahlan"
            name(5, 's') -> "moean"
            name(6, 's') -> "vikan"
            name(7, 's') -> "haugan"
            name(8, 's') -> "bergan"
            name(15, 's') -> "haugan"
            name(16, 's') -> "bergan"
            """);
        due("By-names 0 to 3 are red, tall, wise, lame.", """
            7 x birth(-1, -1, 'f', 0, 0)
            4 x deed(%, %) -> -1
            4 x tell(4, %) -> 1
            4 x tell(5, %) -> 2
            4 x tell(6, %) -> 3
            name(0, 'b') -> "red"
            name(1, 'b') -> "tall"
            name(2, 'b') -> "wise"
            name(3, 'b') -> "lame"
            deed(4, 4) -> throws.IllegalArgumentException
            deed(4, -1) -> throws.IllegalArgumentException
            """);
        due("Days of a week are", """
            setSystem(0, 'd')
            birth(-1, -1, 'f', 0, 0)
            """ + "days(1)\nbirth(-1, -1, 'f', 0, 0)\n".repeat(14) + """
            name(0, 's') -> "sun"
            name(1, 's') -> "moon"
            name(2, 's') -> "tyr"
            name(3, 's') -> "odin"
            name(4, 's') -> "thor"
            name(5, 's') -> "frig"
            name(6, 's') -> "bath"
            name(7, 's') -> "sun"
            name(13, 's') -> "bath"
            name(14, 's') -> "sun"
            days(999) -> 1013    // 1013 is 144 weeks and 5 days
            birth(-1, -1, 'f', 0, 0) -> 15
            name(15, 's') -> "frig"
            """);
    }

    private static void persons() {
        due("At most 40 persons are numbered from 0", """
            40 x birth(-1, -1, 'm', 4, 3) -> %
            birth(-1, -1, 'm', 4, 3) -> throws.IllegalStateException
            birth(0, 39, 'f', 4, 0) -> throws.IllegalStateException
            persons() -> 40
            die(0) -> false
            die(39) -> false
            birth(-1, -1, 'm', 4, 3) -> throws.IllegalStateException    // the dead were persons too
            persons() -> 40
            """);
        due("At most 40 persons are numbered from 0, with a sex, 'm' or 'f'", """
            birth(-1, -1, 'm', 0, 0) -> 0
            birth(-1, -1, 'f', 0, 3) -> 1
            birth(0, 1, 'm', 0, 3) -> 2       // neither the sex of a parent nor the land matters
            birth(0, -1, 'f', 0, 0) -> 3
            birth(-1, 0, 'f', 0, 0) -> 4
            landOf(0) -> 0
            landOf(1) -> 3
            name(2, 's') -> "annason"
            name(3, 's') -> "annadot"
            """);
        due("A person without parents has the house that is the own number modulo 8 and the generation 0", """
            40 x birth(-1, -1, 'f', 4, 2)
            name(7, 's') -> "haugan"
            name(8, 's') -> "bergan"
            name(31, 's') -> "haugan"
            name(32, 's') -> "bergan"
            name(39, 's') -> "haugan"
            """);
        due("otherwise the house is that of the father, or else of the mother, and the generation one more", """
            birth(-1, -1, 'f', 0, 0)      // the house is kept where the system does not show it
            birth(-1, -1, 'm', 1, 1)
            birth(0, 1, 'm', 3, 2) -> 2
            birth(0, -1, 'm', 3, 2) -> 3
            birth(-1, 2, 'm', 3, 3) -> 4
            birth(3, 4, 'm', 3, 2) -> 5
            birth(5, 1, 'm', 3, 2) -> 6
            birth(5, -1, 'm', 3, 2) -> 7
            name(2, 's') -> "lundbe"
            name(3, 's') -> "bergbe"
            name(5, 's') -> "lunddu"
            name(6, 's') -> "lundbe"      // counted from the father, though the mother has more
            name(7, 's') -> "lundan"
            """);
        due("Systems of the lands 0 to 3 are p, i, c, m at first.", """
            setSystem(0, 'd') -> 'p'
            setSystem(1, 'd') -> 'i'
            setSystem(2, 'd') -> 'c'
            setSystem(3, 'd') -> 'm'
            """);
    }

    /** Persons 0, anna, and 1, bjorn, in land 1, with given names of which clerk 3 left nothing; 2 and 3 have theirs. */
    private static final String NAMELESS = """
        birth(-1, -1, 'f', 0, 0)
        birth(-1, -1, 'm', 1, 0)
        birth(-1, -1, 'f', 2, 0)
        birth(-1, -1, 'm', 3, 0)
        addRule(3, 'a', ' ', ' ', ' ')
        addRule(3, 'n', ' ', ' ', ' ')
        addRule(3, 'b', 'j', ' ', ' ')
        addRule(3, 'o', ' ', ' ', ' ')
        addRule(3, 'r', ' ', ' ', ' ')
        move(0, 1, 3)
        move(1, 1, 3)
        """;

    private static void fathersNames() {
        due("'p' the given name of the father, or else, without one or if it is empty, that of the mother", NAMELESS + """
            length(0, 'g') -> 0
            length(1, 'g') -> 0
            birth(2, 3, 'm', 4, 0) -> 4
            birth(2, 3, 'f', 4, 0) -> 5
            birth(2, -1, 'm', 4, 0) -> 6
            birth(2, 1, 'f', 4, 0) -> 7
            birth(0, 3, 'm', 4, 0) -> 8
            birth(-1, 3, 'f', 4, 0) -> 9
            name(4, 's') -> "davidson"
            name(5, 's') -> "daviddot"
            name(6, 's') -> "carlason"
            name(7, 's') -> "carladot"
            name(8, 's') -> "davidson"
            name(9, 's') -> "daviddot"
            """);
        due("Without what a system needs, it is empty.", NAMELESS + """
            birth(-1, -1, 'm', 4, 0) -> 4
            birth(-1, -1, 'm', 4, 3) -> 5
            birth(-1, -1, 'm', 4, 1) -> 6
            birth(0, 1, 'm', 4, 0) -> 7
            birth(0, 1, 'f', 4, 3) -> 8
            birth(0, -1, 'm', 4, 0) -> 9
            birth(-1, 1, 'f', 4, 3) -> 10
            birth(2, 3, 'm', 4, 1) -> 11
            length(4, 's') -> 0
            length(5, 's') -> 0
            length(6, 's') -> 0
            length(7, 's') -> 0
            length(8, 's') -> 0
            length(9, 's') -> 0
            length(10, 's') -> 0
            length(11, 's') -> 0
            letter(7, 's', 0) -> throws.NoSuchElementException
            isSound() -> true
            """);
    }

    private static void mothersNames() {
        due("'m' that of the mother, or else, in the same way, that of the father", NAMELESS + """
            birth(2, 3, 'm', 4, 3) -> 4
            birth(2, 3, 'f', 4, 3) -> 5
            birth(-1, 3, 'm', 4, 3) -> 6
            birth(0, 3, 'f', 4, 3) -> 7
            birth(2, 1, 'm', 4, 3) -> 8
            birth(2, -1, 'f', 4, 3) -> 9
            name(4, 's') -> "carlason"
            name(5, 's') -> "carladot"
            name(6, 's') -> "davidson"
            name(7, 's') -> "daviddot"
            name(8, 's') -> "carlason"
            name(9, 's') -> "carladot"
            """);
    }

    private static void inheritedNames() {
        String sentence = "'i' the second one of the father, or his by-name if it sticks and his second one is empty";
        due(sentence, """
            birth(-1, -1, 'f', 0, 2) -> 0      // bergan
            birth(-1, -1, 'm', 1, 0) -> 1
            birth(-1, -1, 'm', 2, 0) -> 2
            birth(-1, 2, 'm', 3, 0) -> 3       // carlason
            deed(1, 3) -> -1
            tell(0, 1) -> 1
            tell(2, 1) -> 2
            birth(0, 1, 'f', 4, 1) -> 4        // told by two: it does not stick
            tell(3, 1) -> 3
            birth(0, 1, 'f', 4, 1) -> 5
            birth(-1, 1, 'f', 4, 1) -> 6
            birth(0, 3, 'f', 4, 1) -> 7
            birth(0, -1, 'f', 4, 1) -> 8
            birth(0, 2, 'f', 4, 1) -> 9
            birth(1, 2, 'f', 4, 1) -> 10       // a by-name of the mother is none
            name(4, 's') -> "bergan"
            name(5, 's') -> "lame"
            name(6, 's') -> "lame"
            name(7, 's') -> "carlason"
            name(8, 's') -> "bergan"
            name(9, 's') -> "bergan"
            name(10, 's') -> ""
            """);
        due(sentence, """
            birth(-1, -1, 'm', 0, 2)           // bergan, and his by-name sticks
            4 x birth(-1, -1, 'm', 1, 0)
            deed(0, 0)
            tell(1, 0) -> 1
            tell(2, 0) -> 2
            tell(3, 0) -> 3
            birth(-1, 0, 'm', 2, 1) -> 5
            die(0)
            birth(-1, 0, 'm', 2, 1) -> 6
            name(0, 'f') -> "anna red bergan"
            name(5, 's') -> "bergan"
            name(6, 's') -> "bergan"
            """);
    }

    private static void clanNames() {
        due("'c' the house, which is that of the father, or else of the mother, and behind it the name", """
            birth(-1, -1, 'm', 0, 2) -> 0
            birth(-1, 0, 'm', 0, 2) -> 1
            birth(-1, 1, 'm', 0, 2) -> 2
            birth(-1, 2, 'm', 0, 2) -> 3
            birth(-1, 3, 'm', 0, 2) -> 4
            birth(-1, 4, 'm', 0, 2) -> 5
            birth(-1, -1, 'f', 0, 2) -> 6
            birth(6, 3, 'f', 0, 2) -> 7
            birth(6, -1, 'f', 0, 2) -> 8
            birth(3, 6, 'f', 0, 2) -> 9
            name(0, 's') -> "bergan"
            name(1, 's') -> "bergbe"
            name(2, 's') -> "bergco"
            name(3, 's') -> "bergdu"
            name(4, 's') -> "bergan"      // the generation 4 is that of 0 again
            name(5, 's') -> "bergbe"
            name(6, 's') -> "vikan"
            name(7, 's') -> "bergan"
            name(8, 's') -> "vikbe"
            name(9, 's') -> "vikbe"
            """);
    }

    private static void dayNames() {
        due("'d' the day.", """
            setSystem(2, 'd') -> 'c'
            birth(-1, -1, 'm', 0, 2) -> 0
            days(6) -> 6
            birth(-1, 0, 'm', 0, 2) -> 1
            days(1) -> 7
            birth(1, 0, 'm', 0, 2) -> 2
            name(0, 's') -> "sun"
            name(1, 's') -> "bath"
            name(2, 's') -> "sun"
            isSound() -> true
            """);
    }

    private static void longestNames() {
        // Clerk 0 makes anna 16 letters long, clerk 1 cuts it to 17: children have second names of 19 and 20 signs.
        String names = """
            setMarriage(0, 'h')
            birth(-1, -1, 'm', 0, 0)
            birth(-1, -1, 'm', 0, 0)
            addRule(0, 'a', ' ', 'a', 'a')
            addRule(0, 'n', ' ', 'n', 'n')
            addRule(1, 'a', ' ', 'a', 'a')
            addRule(1, 'n', ' ', 'n', 'n')
            setLimit(1, 17)
            move(0, 1, 0)
            move(0, 2, 0)
            move(1, 1, 0)
            move(1, 2, 0)
            move(1, 3, 1)
            birth(-1, 0, 'f', 4, 0) -> 2
            birth(-1, 0, 'm', 4, 0) -> 3
            birth(-1, 0, 'f', 4, 0) -> 4
            birth(-1, 1, 'm', 4, 0) -> 5
            birth(-1, 1, 'f', 4, 0) -> 6
            birth(-1, 1, 'm', 4, 0) -> 7
            """;
        String sentence = "Each given and each second name is cut to 40 signs.";
        due(sentence, names + """
            name(2, 's') -> "aaaannnnnnnnaaaadot"
            name(5, 's') -> "aaaaaaaannnnnnnnnson"
            marry(2, 3) -> 2
            marry(4, 5) -> 2
            marry(6, 7) -> 2
            name(2, 's') -> "aaaannnnnnnnaaaadot-aaaannnnnnnnaaaason"
            name(4, 's') -> "aaaannnnnnnnaaaadot-aaaaaaaannnnnnnnnson"
            name(6, 's') -> "aaaaaaaannnnnnnnndot-aaaaaaaannnnnnnnnso"
            name(7, 's') -> "aaaaaaaannnnnnnnnson-aaaaaaaannnnnnnnndo"
            length(2, 's') -> 39
            length(4, 's') -> 40
            length(6, 's') -> 40
            letter(4, 's', 39) -> 'n'
            letter(6, 's', 39) -> 'o'
            letter(6, 's', 40) -> throws.NoSuchElementException
            isSound() -> true
            """);
        due(sentence, names + """
            marry(6, 7) -> 2
            birth(6, 7, 'f', 4, 1) -> 8           // who inherits it has all 40 signs
            name(8, 's') -> "aaaaaaaannnnnnnnnson-aaaaaaaannnnnnnnndo"
            die(7) -> true
            marry(6, 8) -> 0                      // 40 signs ahead of a dash leave no room for it
            length(6, 's') -> 40
            length(8, 's') -> 40
            changes(6) -> 1
            name(8, 's') -> "aaaaaaaannnnnnnnnson-aaaaaaaannnnnnnnndo"
            """);
    }

    private static void laws() {
        due("A given name can be banned in a land.", """
            ban(3, 15, true) -> false
            birth(-1, -1, 'm', 15, 3) -> throws.UnsupportedOperationException
            birth(-1, -1, 'm', 14, 3) -> 0
            birth(-1, -1, 'm', 15, 2) -> 1
            ban(3, 15, false) -> true
            birth(-1, -1, 'm', 15, 3) -> 2
            """);
        due("A land can forbid to give the name of a living child of the same mother or father.", """
            birth(-1, -1, 'f', 0, 0)
            birth(-1, -1, 'm', 1, 0)
            birth(-1, -1, 'f', 2, 0)
            birth(-1, -1, 'm', 3, 0)
            birth(0, 1, 'm', 4, 0) -> 4
            forbid(0, true) -> false
            birth(0, 1, 'f', 4, 0) -> throws.UnsupportedOperationException
            birth(0, 3, 'f', 4, 0) -> throws.UnsupportedOperationException
            birth(2, 1, 'f', 4, 0) -> throws.UnsupportedOperationException
            birth(0, -1, 'f', 4, 0) -> throws.UnsupportedOperationException
            birth(-1, 1, 'f', 4, 0) -> throws.UnsupportedOperationException
            birth(2, 3, 'f', 4, 0) -> 5
            birth(-1, -1, 'f', 4, 0) -> 6        // to have no parents is not to have the same ones
            birth(-1, -1, 'f', 4, 0) -> 7
            birth(0, 1, 'f', 4, 1) -> 8
            birth(0, 1, 'f', 5, 0) -> 9
            birth(0, 1, 'f', 0, 0) -> 10         // the name of the mother, who is no child of hers
            die(4) -> false
            die(8) -> false
            birth(0, 1, 'f', 4, 0) -> 11
            forbid(0, false) -> true
            birth(0, 1, 'f', 4, 0) -> 12
            """);
        due("'b' the name is banned there, with the land", """
            birth(-1, -1, 'f', 0, 2)
            birth(0, -1, 'f', 5, 2)
            forbid(2, true)
            birth(0, -1, 'f', 5, 2) -> throws.UnsupportedOperationException
            cause(0) -> 'l'
            ban(2, 5, true)
            birth(0, -1, 'f', 5, 2) -> throws.UnsupportedOperationException
            cause(0) -> 'b'
            causeNumber(0) -> 2
            cause(1) -> 'n'
            causeNumber(1) -> 5
            ban(2, 5, false)
            setLimit(0, 4)
            move(1, 3, 0) -> 2          // frey lundbe is none of that name by now
            birth(0, -1, 'f', 5, 2) -> 2
            cause(0) -> 'b'
            petition(1, 5, 'u') -> 0
            days(30)
            decide(0) -> true
            die(2)
            birth(0, -1, 'f', 5, 2) -> throws.UnsupportedOperationException
            cause(0) -> 'l'
            causeNumber(0) -> 1         // freya again, by a petition
            """);
        due("'l' the lowest living such child has it, with its number.", """
            birth(-1, -1, 'f', 0, 0)
            birth(-1, -1, 'm', 1, 0)
            birth(-1, 1, 'm', 7, 0) -> 2
            birth(0, -1, 'm', 7, 0) -> 3
            birth(0, 1, 'm', 7, 0) -> 4
            birth(0, 1, 'm', 8, 0) -> 5
            forbid(3, true)
            birth(0, 1, 'm', 7, 3) -> throws.UnsupportedOperationException
            causeNumber(0) -> 2
            birth(0, -1, 'm', 7, 3) -> throws.UnsupportedOperationException
            causeNumber(0) -> 3
            die(2)
            die(3)
            birth(0, 1, 'm', 7, 3) -> throws.UnsupportedOperationException
            cause(0) -> 'l'
            causeNumber(0) -> 4
            die(4)
            birth(0, 1, 'm', 7, 3) -> 6
            """);
        due("Below both is 'n', the name, with its number.", """
            ban(0, 0, true)
            ban(0, 15, true)
            birth(-1, -1, 'f', 0, 0) -> throws.UnsupportedOperationException
            cause(1) -> 'n'
            causeNumber(1) -> 0
            birth(-1, -1, 'f', 15, 0) -> throws.UnsupportedOperationException
            cause(1) -> 'n'
            causeNumber(1) -> 15
            forbid(1, true)
            birth(-1, -1, 'f', 15, 1) -> 0
            birth(0, -1, 'f', 15, 1) -> 1
            birth(0, -1, 'f', 15, 1) -> throws.UnsupportedOperationException
            causeNumber(0) -> 1
            cause(1) -> 'n'
            causeNumber(1) -> 15
            cause(2) -> throws.NoSuchElementException
            """);
    }

    /** Persons 0, bergan, and 1, lundan, of these sexes, in land 2. */
    private static String couple(char one, char other) {
        return "birth(-1, -1, '" + one + "', 0, 2)\nbirth(-1, -1, '" + other + "', 1, 2)\n";
    }

    private static void marriages() {
        due("marry by the rule of the land of the first one: 'k' both keep their names", couple('f', 'm') + """
            birth(-1, -1, 'f', 2, 0) -> 2
            marry(2, 1) -> 0
            name(2, 's') -> ""
            name(1, 's') -> "lundan"
            changes(1) -> 0
            changes(2) -> 0
            marry(0, 0) -> throws.UnsupportedOperationException
            marry(0, 1) -> throws.UnsupportedOperationException
            marry(1, 0) -> throws.UnsupportedOperationException
            """);
        String takes = "'m' who is of the sex f takes the second name of the other one, if just one of both is";
        String rule = "setMarriage(2, 'm')\n";
        due(takes, couple('f', 'm') + rule + """
            marry(0, 1) -> 1
            name(0, 's') -> "lundan"
            name(1, 's') -> "lundan"
            """);
        due(takes, couple('m', 'f') + rule + """
            marry(0, 1) -> 1
            name(0, 's') -> "bergan"
            name(1, 's') -> "bergan"
            """);
        due(takes, couple('f', 'f') + rule + """
            marry(0, 1) -> 0
            name(0, 's') -> "bergan"
            name(1, 's') -> "lundan"
            """);
        due(takes, couple('m', 'm') + rule + """
            marry(0, 1) -> 0
            name(0, 's') -> "bergan"
            name(1, 's') -> "lundan"
            """);
        due("'t' the second one takes that of the first one", couple('f', 'm') + """
            birth(-1, -1, 'm', 2, 0) -> 2
            marry(0, 1) -> 1
            name(0, 's') -> "bergan"
            name(1, 's') -> "bergan"
            setMarriage(0, 't')
            die(1)
            marry(2, 0) -> 1
            name(0, 's') -> ""
            die(0)
            marry(2, 1) -> throws.UnsupportedOperationException
            """);
        due("'h' both bear their own one, a dash, and that of the other one, also if these are empty.", """
            setMarriage(0, 'h')
            birth(-1, -1, 'f', 0, 0)
            birth(-1, -1, 'm', 1, 0)
            birth(-1, -1, 'm', 2, 2)
            birth(-1, -1, 'm', 3, 2)
            birth(-1, -1, 'f', 4, 0)
            marry(0, 1) -> 2
            marry(4, 2) -> 2
            name(0, 's') -> "-"
            name(1, 's') -> "-"
            name(4, 's') -> "-holman"
            name(2, 's') -> "holman-"
            name(0, 'f') -> "anna -"
            """);
        due("A marriage ends when one dies.", couple('f', 'm') + """
            birth(-1, -1, 'm', 2, 0)
            marry(0, 1)
            spouse(0) -> 1
            die(1) -> true
            spouse(0) -> throws.NoSuchElementException
            spouse(1) -> throws.NoSuchElementException
            marry(0, 2) -> 1
            spouse(0) -> 2
            name(2, 's') -> "bergan"
            marry(0, 1) -> throws.UnsupportedOperationException
            """);
        due("Names that are put together are as they were ahead of it.", couple('f', 'm') + """
            setMarriage(2, 'h')
            marry(0, 1) -> 2
            name(0, 's') -> "bergan-lundan"
            name(1, 's') -> "lundan-bergan"
            die(0)
            birth(-1, -1, 'f', 2, 2)
            marry(2, 1) -> 2
            name(2, 's') -> "holman-lundan-bergan"
            name(1, 's') -> "lundan-bergan-holman"
            name(0, 's') -> "bergan-lundan"
            """);
        due("Rules are k, m, t, h at first.", """
            setMarriage(0, 'k') -> 'k'
            setMarriage(1, 'k') -> 'm'
            setMarriage(2, 'k') -> 't'
            setMarriage(3, 'k') -> 'h'
            """);
    }

    private static void byNames() {
        due("A deed gives a by-name to a person, told by nobody yet, in place of one that does not stick.", """
            5 x birth(-1, -1, 'f', 0, 0)
            deed(0, 3) -> -1
            tell(1, 0) -> 1
            tell(2, 0) -> 2
            deed(0, 3) -> 3          // the same one, but told by nobody yet
            tell(2, 0) -> 1
            tell(1, 0) -> 2
            deed(0, 0) -> 3
            length(0, 'b') -> 0
            tell(1, 0) -> 1
            tell(2, 0) -> 2
            tell(3, 0) -> 3
            name(0, 'b') -> "red"
            deed(0, 1) -> throws.IllegalStateException
            deed(0, 0) -> throws.IllegalStateException
            deed(4, 3) -> -1
            """);
        due("It sticks when three unlike persons, not the bearer, have told it.", """
            5 x birth(-1, -1, 'f', 0, 0)
            deed(4, 1)
            tell(0, 4) -> 1
            tell(0, 4) -> 1
            tell(0, 4) -> 1
            length(4, 'b') -> 0
            tell(1, 4) -> 2
            tell(4, 4) -> throws.UnsupportedOperationException
            length(4, 'b') -> 0
            die(0)
            tell(2, 4) -> 3          // who told it and died has told it
            length(4, 'b') -> 4
            tell(2, 4) -> 3
            tell(3, 4) -> 4
            name(4, 'f') -> "anna tall"
            die(4)
            name(4, 'f') -> "anna tall"
            """);
        due("It sticks when three unlike persons", """
            40 x birth(-1, -1, 'f', 0, 0)
            deed(31, 1)
            deed(7, 1)
            tell(0, 31) -> 1
            tell(32, 31) -> 2
            tell(39, 31) -> 3
            tell(7, 31) -> 4
            tell(39, 7) -> 1
            tell(38, 7) -> 2
            tell(6, 7) -> 3
            """);
    }

    /** What clerk 1 makes of the given name of person 0 by a record, and by a move to land 1. */
    private static String heard(int given, String rules, String text) {
        StringBuilder lines = new StringBuilder("birth(-1, -1, 'f', " + given + ", 0)\n");
        for (String rule : rules.split("/")) {
            lines.append("addRule(1, '" + String.join("', '", rule.split("")) + "')\n");
        }
        return lines + "record(0, 1, 0)\ntext(0, false) -> \"" + text + "\"\n" + "move(0, 1, 1) -> 1\n"
                + "name(0, 'g') -> \"" + text + "\"\n";
    }

    private static void clerks() {
        String kinds = "There are 4, each with at most 8 rules, in their order";
        due(kinds, """
            birth(-1, -1, 'f', 0, 0)
            8 x addRule(3, 'n', ' ', 'm', ' ')
            addRule(3, 'a', ' ', 'o', ' ') -> throws.IllegalStateException
            8 x addRule(0, 'a', ' ', 'o', ' ')
            addRule(0, 'n', ' ', 'm', ' ') -> throws.IllegalStateException
            addRule(4, 'n', ' ', 'm', ' ') -> throws.IllegalArgumentException
            addRule(2, 'q', 'q', 'q', 'q') -> 1
            record(0, 3, 0)
            record(0, 0, 0)
            record(0, 1, 0)
            text(0, false) -> "amma"
            text(1, false) -> "onno"
            text(2, false) -> "anna"
            dropRules(3) -> 8
            addRule(3, 'a', ' ', 'o', ' ') -> 1
            """);
        due(kinds, heard(7, "a   ", "hnn"));
        due(kinds, heard(7, "a o ", "honno"));
        due(kinds, heard(7, "a ou", "hounnou"));
        due(kinds, heard(7, "nn  ", "haa"));
        due(kinds, heard(7, "nnm ", "hama"));
        due(kinds, heard(7, "nnmb", "hamba"));
        due(kinds, heard(7, "n m /nnx ", "hamma"));
        due(kinds, heard(7, "nnx /n m ", "haxa"));
        due(kinds, heard(7, "q q /q q /q q /q q /q q /q q /q q /a o ", "honno"));
        String places = "A text is written from the left: at each place the first rule whose letters are there is used";
        due(places, heard(0, "ann /nnb ", "nna"));
        due(places, heard(0, "nan /anm ", "mn"));
        due(places, heard(7, "a n /nnx ", "hnxn"));
        due(places, heard(7, "nnn ", "hana"));
        due(places, heard(7, "abx /hb  /a e ", "henne"));
        due(places, heard(7, "aax /naa ", "hana"));
        due("without one, the letter stays.", heard(6, "r z ", "gunnaz"));
        due("without one, the letter stays.", """
            birth(-1, -1, 'f', 6, 0)
            record(0, 0, 0)
            text(0, false) -> "gunnar"
            addRule(0, 'r', 'r', 'x', ' ')
            addRule(0, 'r', 'x', 'x', ' ')      // the end is no letter
            record(0, 0, 0)
            text(1, false) -> "gunnar"
            move(0, 1, 0) -> 0
            """);
        due("At the end, the text is cut to the clerk's limit, 1 to 24, 24 at first.", """
            birth(-1, -1, 'f', 6, 0)
            birth(0, -1, 'm', 6, 0)             // gunnarson
            addRule(0, 'n', ' ', 'n', 'n')
            addRule(0, 'g', ' ', 'g', 'g')
            addRule(0, 'u', ' ', 'u', 'u')
            record(1, 0, 0)
            text(0, false) -> "gguunnnnar"
            text(0, true) -> "gguunnnnarsonn"
            setLimit(0, 5) -> 24
            record(1, 0, 0)
            text(1, false) -> "gguun"
            text(1, true) -> "gguun"
            setLimit(0, 1) -> 5
            record(1, 0, 0)
            text(2, false) -> "g"
            setLimit(0, 10) -> 1
            record(1, 0, 0)
            text(3, false) -> "gguunnnnar"
            setLimit(0, 9) -> 10
            record(1, 0, 0)
            text(4, false) -> "gguunnnna"
            setLimit(0, 25) -> throws.IllegalArgumentException
            setLimit(0, 0) -> throws.IllegalArgumentException
            """);
        due("24 at first.", """
            birth(-1, -1, 'f', 0, 0)
            addRule(2, 'a', ' ', 'a', 'a')
            addRule(2, 'n', ' ', 'n', 'n')
            move(0, 1, 2)
            move(0, 2, 2)
            name(0, 'g') -> "aaaannnnnnnnaaaa"
            record(0, 2, 0)
            record(0, 3, 0)
            writtenLength(0, false) -> 24
            text(0, false) -> "aaaaaaaannnnnnnnnnnnnnnn"
            text(1, false) -> "aaaannnnnnnnaaaa"
            move(0, 3, 2)
            length(0, 'g') -> 24
            """);
        due("Dashes stay.", couple('f', 'm') + """
            setMarriage(2, 'h')
            marry(0, 1)
            addRule(0, 'n', 'l', 'x', ' ')      // the letters on both sides of a dash are no two letters
            addRule(0, 'n', ' ', ' ', ' ')
            record(0, 0, 0)
            text(0, true) -> "berga-luda"
            move(0, 1, 0) -> 2
            name(0, 's') -> "berga-luda"
            addRule(1, 'b', '-', ' ', ' ') -> throws.IllegalArgumentException
            addRule(1, '-', ' ', ' ', ' ') -> throws.IllegalArgumentException
            setLimit(0, 6)
            move(0, 0, 0) -> 1
            name(0, 's') -> "berga-"
            """);
    }

    private static void moves() {
        due("Who moves to another land has the given and the second name written by a clerk from then on", """
            birth(-1, -1, 'm', 1, 0)
            birth(-1, 0, 'm', 9, 0)             // jon bjornson
            addRule(2, 'j', ' ', 'y', ' ')
            move(1, 0, 2) -> throws.IllegalArgumentException
            name(1, 'f') -> "jon bjornson"
            move(1, 3, 2) -> 2
            name(1, 'f') -> "yon byornson"
            name(0, 'g') -> "bjorn"
            move(1, 0, 3) -> 0
            name(1, 'f') -> "yon byornson"
            landOf(1) -> 0
            """);
        due("the system of the new land is for children that are born there", """
            birth(-1, -1, 'm', 1, 0)
            birth(-1, 0, 'm', 9, 0)
            move(0, 2, 0) -> 0
            name(0, 's') -> ""
            birth(-1, 0, 'm', 3, 2) -> 2
            name(2, 's') -> "bergbe"
            name(1, 's') -> "bjornson"
            """);
        due("a child is born in the land that is told.", """
            birth(-1, -1, 'm', 1, 3)
            birth(-1, -1, 'f', 2, 3)
            birth(1, 0, 'm', 9, 0) -> 2
            landOf(2) -> 0
            name(2, 's') -> "bjornson"
            birth(1, 0, 'm', 9, 3) -> 3
            landOf(3) -> 3
            name(3, 's') -> "carlason"
            """);
    }

    private static void petitions() {
        due("At most 20 are numbered from 0", """
            birth(-1, -1, 'm', 1, 0)
            20 x petition(0, 1, 'm') -> %
            petition(0, 1, 'm') -> throws.IllegalStateException
            petition(0, 1, 's') -> throws.IllegalStateException
            days(30)
            20 x decide(%) -> true
            petition(0, 1, 'u') -> throws.IllegalStateException    // the decided ones were petitions too
            decide(20) -> throws.IndexOutOfBoundsException
            """);
        due("a person asks for another given name, by a ground: 'm' a mistake, 'u' use, 's' safety.", """
            3 x birth(-1, -1, 'm', 1, 0)
            petition(0, 2, 'm') -> 0
            petition(1, 3, 'u') -> 1
            petition(2, 4, 's') -> 2
            name(0, 'g') -> "bjorn"
            days(30)
            3 x decide(%) -> true
            name(0, 'g') -> "carla"
            name(1, 'g') -> "david"
            name(2, 'g') -> "erik"
            isSealed(0) -> false
            isSealed(1) -> false
            isSealed(2) -> true
            """);
        due("A living person of the same land who has this given name can oppose", """
            birth(-1, -1, 'm', 1, 0)
            birth(-1, -1, 'm', 2, 0)
            birth(-1, -1, 'm', 2, 0)
            birth(-1, -1, 'm', 2, 1)
            birth(-1, -1, 'm', 3, 0)
            petition(0, 2, 'm') -> 0
            petition(0, 2, 'u') -> 1
            petition(0, 2, 's') -> 2
            oppose(0, 1) -> 1
            oppose(1, 1) -> 1
            oppose(0, 2) -> 2
            oppose(2, 1) -> throws.UnsupportedOperationException
            oppose(0, 3) -> throws.UnsupportedOperationException
            oppose(0, 4) -> throws.UnsupportedOperationException
            die(2)
            oppose(1, 2) -> throws.UnsupportedOperationException
            move(0, 1, 0)
            oppose(1, 3) -> 2                   // the land is the one where the person is by now
            petition(4, 2, 'u') -> 3
            oppose(3, 0) -> throws.UnsupportedOperationException
            oppose(3, 1) -> 1
            """);
        String notice = "It can be decided from 30 days on: it is granted if nobody opposed it";
        due(notice, """
            birth(-1, -1, 'm', 1, 0)
            birth(-1, -1, 'm', 2, 0)
            days(17)
            petition(0, 2, 'm') -> 0
            petition(0, 3, 'm') -> 1
            oppose(0, 1) -> 1
            decide(1) -> throws.UnsupportedOperationException
            days(29)
            decide(1) -> throws.UnsupportedOperationException
            petition(0, 4, 'm') -> 2
            days(1)
            decide(2) -> throws.UnsupportedOperationException
            decide(1) -> true
            decide(0) -> false
            name(0, 'g') -> "david"
            days(999)
            decide(2) -> true
            name(0, 'g') -> "erik"
            """);
        due(notice, """
            3 x birth(-1, -1, 'm', 1, 0)
            petition(0, 2, 'm') -> 0
            petition(1, 2, 's') -> 1
            petition(2, 2, 'u') -> 2
            petition(0, 2, 'm') -> 3
            ban(0, 2, true)
            die(2)
            days(30)
            decide(0) -> false
            decide(1) -> false
            isSealed(1) -> false
            decide(2) -> false
            ban(0, 2, false)
            ban(1, 2, true)
            ban(0, 3, true)
            decide(3) -> true
            name(0, 'g') -> "carla"
            name(1, 'g') -> "bjorn"
            name(2, 'g') -> "bjorn"
            """);
        due("What is changed for safety is sealed, and so is the person, from then on", """
            birth(-1, -1, 'm', 1, 0)
            birth(-1, -1, 'm', 2, 0)
            petition(0, 5, 's') -> 0
            petition(1, 2, 's') -> 1
            petition(0, 6, 'u') -> 2
            days(30)
            isSealed(0) -> false
            decide(0) -> true
            isSealed(0) -> true
            isSealed(1) -> false
            changes(0) -> 0
            wasCalled(0, 0, 0) -> throws.NoSuchElementException
            decide(1) -> true                   // the name was this one already
            isSealed(1) -> true
            changes(1) -> 0
            name(1, 'g') -> "carla"
            decide(2) -> true
            isSealed(0) -> true
            changes(0) -> 1
            was(0, 0, 5) -> "freya"
            """);
    }
}
