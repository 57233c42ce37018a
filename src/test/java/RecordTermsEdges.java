/** What the Terms say of records, keys, links and exceptions, at its edges. */
final class RecordTermsEdges {
    private RecordTermsEdges() {
    }

    static void all() {
        records();
        keyLetters();
        keyDigits();
        prices();
        pricesOfDays();
        distances();
        links();
        clusters();
        doubts();
        exceptions();
    }

    private static void due(String sentence, String lines) {
        Runs.due(Sentences.TERMS, sentence, lines);
    }

    private static void records() {
        String most = "At most 40 are numbered from 0: a clerk writes the given and the second name of a person into a book";
        due(most, """
            2 x birth(-1, -1, 'f', 0, 0)
            40 x record(0, 0, 3) -> %
            record(1, 3, 0) -> throws.IllegalStateException
            records() -> 40
            petition(0, 0, 's')
            days(30)
            decide(0) -> true
            record(1, 3, 0) -> throws.IllegalStateException    // the closed ones are records too
            records() -> 40
            """);
        due(most, """
            birth(-1, -1, 'f', 0, 0)
            birth(0, -1, 'm', 3, 0)
            setLimit(3, 2)
            record(1, 3, 0) -> 0
            record(1, 0, 3) -> 1
            record(1, 0, 4) -> throws.IllegalArgumentException
            record(1, 0, -1) -> throws.IllegalArgumentException
            text(0, false) -> "da"
            text(0, true) -> "an"
            text(1, false) -> "david"
            text(1, true) -> "annason"
            die(1)
            move(0, 1, 3)
            record(1, 0, 0) -> 2
            record(0, 0, 0) -> 3
            text(2, false) -> "david"
            text(3, false) -> "an"
            text(3, true) -> ""
            text(1, true) -> "annason"
            """);
        due("A slip puts another letter in the place of one.", """
            birth(-1, -1, 'f', 6, 0)
            birth(0, -1, 'm', 6, 0)
            2 x record(1, 0, 0)
            slip(0, false, 0, 'z') -> 'g'
            slip(0, false, 5, 'a') -> 'r'
            slip(0, true, 0, 'a') -> 'g'
            slip(0, true, 8, 'z') -> 'n'
            text(0, false) -> "zunnaa"
            text(0, true) -> "aunnarsoz"
            text(1, false) -> "gunnar"
            text(1, true) -> "gunnarson"
            name(1, 'f') -> "gunnar gunnarson"
            slip(0, false, 6, 'a') -> throws.NoSuchElementException
            slip(0, true, 9, 'a') -> throws.NoSuchElementException
            slip(0, false, 0, 'z') -> 'z'
            """);
        due("A record is closed if its person is sealed.", """
            2 x birth(-1, -1, 'f', 0, 0)
            record(0, 0, 0)
            record(1, 0, 1)
            petition(0, 5, 's')
            petition(1, 5, 'u')
            isClosed(0) -> false
            days(30)
            decide(0) -> true
            decide(1) -> true
            isClosed(0) -> true
            isClosed(1) -> false
            record(0, 0, 2)
            isClosed(2) -> true
            die(0)
            isClosed(0) -> true
            """);
    }

    /** A text of three to six letters, as the given name of record 0. */
    private static String spelled(String text) {
        int[] givenOfLength = {9, 0, 1, 6};
        StringBuilder lines = new StringBuilder("birth(-1, -1, 'f', " + givenOfLength[text.length() - 3] + ", 0)\n");
        lines.append("record(0, 0, 0)\n");
        for (int i = 0; i < text.length(); i++) {
            lines.append("slip(0, false, " + i + ", '" + text.charAt(i) + "')\n");
        }
        return lines.toString();
    }

    private static void keyOf(String sentence, String text, String key) {
        due(sentence, spelled(text) + "text(0, false) -> \"" + text + "\"\nsound(0, false) -> \"" + key + "\"\n");
    }

    /** Each of these letters stands behind an a, ahead of one, and first. */
    private static void letters(String sentence, String letters, char digit) {
        StringBuilder lines = new StringBuilder(spelled("aaaa"));
        for (char letter : letters.toCharArray()) {
            lines.append("slip(0, false, 0, 'a')\nslip(0, false, 1, '" + letter + "')\n");
            lines.append("sound(0, false) -> \"a" + digit + "00\"\n");
            lines.append("slip(0, false, 0, '" + letter + "')\nslip(0, false, 1, 'a')\n");
            lines.append("sound(0, false) -> \"" + letter + "000\"\n");
        }
        due(sentence, lines.toString());
    }

    private static void keyLetters() {
        letters("A key is the first sign of a text, and three digits: of the letters behind it, b, f, p, v are 1",
                "bfpv", '1');
        letters("c, g, j, k, q, s, x, z 2", "cgjkqsxz", '2');
        letters("d, t 3;", "dt", '3');
        letters("l 4;", "l", '4');
        letters("m, n 5;", "mn", '5');
        letters("r 6;", "r", '6');
        letters("others, and dashes, none", "aehiouwy", '0');
        due("others, and dashes, none", """
            setSystem(0, 'd')
            setMarriage(0, 'h')
            birth(-1, -1, 'f', 0, 0)
            birth(-1, -1, 'm', 1, 1)
            days(1)
            birth(-1, -1, 'm', 1, 0)
            birth(-1, -1, 'f', 0, 1)
            marry(0, 2) -> 2
            record(0, 0, 0)
            record(2, 0, 0)
            text(0, true) -> "sun-moon"
            sound(0, true) -> "s555"         // behind a dash the digit counts again
            text(1, true) -> "moon-sun"
            sound(1, true) -> "m525"
            setMarriage(1, 'h')
            marry(3, 1) -> 2
            record(3, 0, 0)
            text(2, true) -> "-"
            sound(2, true) -> "-000"
            slip(2, true, 0, 'b') -> '-'
            sound(2, true) -> "b000"
            """);
    }

    private static void keyDigits() {
        String ahead = "a digit that is that of the sign directly ahead, the first one too, is left out";
        keyOf(ahead, "pfeife", "p100");
        keyOf(ahead, "bbabxa", "b120");
        keyOf(ahead, "sahsas", "s220");
        keyOf(ahead, "mnmnaa", "m000");
        keyOf(ahead, "ackqxz", "a200");
        keyOf(ahead, "tdtdad", "t300");
        keyOf(ahead, "alllal", "a440");
        keyOf(ahead, "rrr", "r000");
        String three = "the first three are taken, and 0 for those that are missing.";
        keyOf(three, "abdlmr", "a134");
        keyOf(three, "abdlaa", "a134");
        keyOf(three, "abdaal", "a134");
        keyOf(three, "abdaaa", "a130");
        keyOf(three, "abaaaa", "a100");
        keyOf(three, "aaaaaa", "a000");
        keyOf(three, "abd", "a130");
        // A fourth digit, 5 or 6, makes no keys unlike, and those of the second names are unlike.
        due(three, """
            birth(-1, -1, 'f', 6, 2)
            birth(-1, -1, 'f', 6, 2)
            2 x record(%, 0, %)
            2 x slip(%, false, 0, 'a')
            2 x slip(%, false, 1, 'b')
            2 x slip(%, false, 2, 'd')
            2 x slip(%, false, 3, 'l')
            slip(0, false, 4, 'm')
            slip(1, false, 4, 'r')
            setPrice(99)
            sound(0, false) -> "a134"
            sound(1, false) -> "a134"
            sound(0, true) -> "b625"
            sound(1, true) -> "l535"
            isLinked(0, 1) -> true
            slip(1, false, 3, 'm')
            sound(1, false) -> "a135"
            isLinked(0, 1) -> false
            isSound() -> true
            """);
        due(three, """
            birth(-1, -1, 'f', 0, 0)
            setLimit(0, 1)
            record(0, 0, 0)
            sound(0, false) -> "a000"
            slip(0, false, 0, 'r')
            sound(0, false) -> "r000"
            """);
        due("The key of an empty text is four times 0.", """
            birth(-1, -1, 'f', 0, 0)
            addRule(0, 'a', ' ', ' ', ' ')
            addRule(0, 'n', ' ', ' ', ' ')
            record(0, 0, 0)
            record(0, 1, 1)
            text(0, false) -> ""
            sound(0, false) -> "0000"
            sound(0, true) -> "0000"
            sound(1, false) -> "a500"
            key(0, true, 4) -> throws.IllegalArgumentException
            key(0, true, -1) -> throws.IllegalArgumentException
            isLinked(0, 1) -> true           // 12, and the keys of the empty second names are alike
            """);
    }

    private static final String SUM = "The price of two records is the sum of: 3 times the distance of given names";

    private static void prices() {
        due(SUM, """
            birth(-1, -1, 'f', 0, 0)
            birth(-1, -1, 'f', 7, 0)
            birth(0, -1, 'f', 3, 0)
            birth(1, -1, 'f', 3, 0)
            birth(-1, -1, 'm', 0, 0)
            record(0, 0, 0)
            record(1, 0, 1)
            record(2, 0, 2)
            record(3, 0, 3)
            record(4, 0, 1)
            price(0, 1) -> 3
            price(1, 0) -> 3
            price(2, 3) -> 2
            price(3, 2) -> 2
            price(0, 4) -> 50
            price(4, 0) -> 50
            price(0, 2) -> 26                // david, annadot: 3 times 4 and 2 times 7
            price(1, 4) -> 83                // of the same book and day too
            record(0, 0, 0)
            price(0, 5) -> 30
            record(0, 0, 1)
            price(0, 6) -> 0
            days(1)
            record(0, 0, 0)
            price(0, 7) -> 0
            price(0, 0) -> 30
            """);
    }

    private static void pricesOfDays() {
        due(SUM, """
            birth(-1, -1, 'f', 0, 0)
            record(0, 0, 0) -> 0
            days(9)
            record(0, 0, 0) -> 1
            days(1)
            record(0, 0, 0) -> 2
            days(9)
            record(0, 0, 0) -> 3
            days(1)
            record(0, 0, 0) -> 4
            days(179)
            record(0, 0, 0) -> 5
            days(1)
            record(0, 0, 0) -> 6
            days(9)
            record(0, 0, 0) -> 7
            days(1)
            record(0, 0, 0) -> 8
            """ + "days(999)\n".repeat(400) + """
            record(0, 0, 0) -> 9
            price(0, 1) -> 0
            price(0, 2) -> 1
            price(0, 3) -> 1
            price(0, 4) -> 2
            price(0, 5) -> 19
            price(0, 6) -> 20
            price(0, 7) -> 20
            price(0, 8) -> 20
            price(0, 9) -> 20
            price(9, 0) -> 20
            price(1, 6) -> 19
            price(6, 1) -> 19
            price(9, 9) -> 30
            """);
    }

    private static void distances() {
        String least = "A distance is the least number of letters that are put in, taken out or changed.";
        due(least, """
            birth(-1, -1, 'f', 0, 0)
            birth(-1, -1, 'f', 7, 0)
            birth(-1, -1, 'f', 9, 0)
            birth(-1, -1, 'f', 6, 0)
            birth(3, -1, 'f', 15, 0)
            5 x record(%, 0, 0)
            distance(0, 0, false) -> 0
            distance(0, 1, false) -> 1       // anna, hanna
            distance(1, 0, false) -> 1
            distance(0, 2, false) -> 3       // anna, jon
            distance(1, 3, false) -> 3       // hanna, gunnar
            distance(3, 4, false) -> 5       // gunnar, pal
            distance(4, 3, false) -> 5
            distance(0, 1, true) -> 0
            distance(0, 4, true) -> 9
            distance(4, 0, true) -> 9
            distance(4, 4, true) -> 0
            slip(1, false, 0, 'a')
            slip(1, false, 1, 'n')
            slip(1, false, 3, 'a')
            slip(1, false, 4, 'x')
            text(1, false) -> "annax"
            distance(0, 1, false) -> 1
            slip(1, false, 0, 'n')
            slip(1, false, 2, 'a')
            slip(1, false, 3, 'a')
            text(1, false) -> "nnaax"
            distance(0, 1, false) -> 3
            """);
        due(least, """
            birth(-1, -1, 'f', 0, 0)
            addRule(0, 'a', ' ', 'a', 'a')
            addRule(0, 'n', ' ', 'n', 'n')
            move(0, 1, 0)
            move(0, 2, 0)
            addRule(1, 'a', ' ', ' ', ' ')
            addRule(1, 'n', ' ', ' ', ' ')
            addRule(2, 'a', ' ', 'x', 'y')
            record(0, 0, 0)
            record(0, 1, 0)
            record(0, 2, 0)
            record(0, 3, 0)
            text(0, false) -> "aaaaaaaannnnnnnnnnnnnnnn"
            text(1, false) -> ""
            text(2, false) -> "xyxyxyxynnnnnnnnxyxyxyxy"
            text(3, false) -> "aaaannnnnnnnaaaa"
            distance(0, 1, false) -> 24
            distance(1, 0, false) -> 24
            distance(0, 2, false) -> 16
            distance(0, 3, false) -> 12
            distance(1, 1, false) -> 0
            """);
    }

    private static void links() {
        String linked = "Two records are linked if neither is closed, the keys of their given names";
        due(linked, """
            birth(-1, -1, 'f', 0, 0)
            record(0, 0, 0)
            record(0, 0, 1)
            slip(1, false, 0, 'o')
            slip(1, false, 1, 'd')
            slip(1, false, 2, 'r')
            slip(1, false, 3, 'y')
            price(0, 1) -> 12
            isLinked(0, 1) -> true
            isLinked(1, 0) -> true
            isLinked(0, 0) -> false
            days(10)
            record(0, 0, 2)
            slip(2, false, 0, 'o')
            slip(2, false, 1, 'd')
            slip(2, false, 2, 'r')
            slip(2, false, 3, 'y')
            price(0, 2) -> 13
            isLinked(0, 2) -> false
            setPrice(13) -> 12
            isLinked(0, 2) -> true
            isLinked(2, 0) -> true
            setPrice(12)
            isLinked(0, 2) -> false
            setPrice(0)
            isLinked(0, 1) -> false
            isLinked(1, 2) -> false
            """);
        due(linked, """
            birth(-1, -1, 'f', 0, 2)
            record(0, 0, 0)
            record(0, 0, 1)
            slip(1, false, 0, 'o')
            isLinked(0, 1) -> true           // o500 is not a500, but the second ones are alike
            slip(1, true, 0, 'v')
            price(0, 1) -> 5
            isLinked(0, 1) -> false          // v625 is not b625 either
            slip(1, false, 0, 'a')
            price(0, 1) -> 2
            isLinked(0, 1) -> true           // the given ones are alike
            petition(0, 0, 's')
            days(30)
            isLinked(0, 1) -> true
            decide(0) -> true
            isLinked(0, 1) -> false
            isLinked(1, 0) -> false
            """);
        due(linked, """
            2 x birth(-1, -1, 'f', 0, 0)
            record(0, 0, 0)
            record(1, 0, 1)
            isLinked(0, 1) -> true
            petition(1, 0, 's')
            days(30)
            decide(0) -> true
            isLinked(0, 1) -> false          // one that is closed suffices
            isLinked(1, 0) -> false
            setPrice(99)
            isLinked(0, 1) -> false
            """);
    }

    /** Forty records, nine days from one to the next: just neighbours are less than ten days apart. */
    private static String chain(int broken) {
        StringBuilder lines = new StringBuilder("setPrice(0)\nbirth(-1, -1, 'f', 0, 0)\nrecord(0, 0, 0)\n");
        for (int record = 1; record < 40; record++) {
            lines.append("days(" + (record == broken ? 10 : 9) + ")\nrecord(0, 0, 0) -> " + record + "\n");
        }
        return lines.toString();
    }

    private static void clusters() {
        String all = "A cluster has all records that are linked directly or by others";
        due(all, chain(40) + """
            isLinked(38, 39) -> true
            isLinked(37, 39) -> false
            40 x cluster(%) -> 0
            40 x clusterAnew(%) -> 0
            clusters() -> 1
            missed() -> 0
            wrong() -> 0
            doubts() -> 0
            meanPrice() -> 0.0
            isSound() -> true
            slip(39, false, 0, 'h') -> 'a'
            cluster(39) -> 39
            cluster(38) -> 0
            clusters() -> 2
            missed() -> 39
            setPrice(99) -> 0
            clusters() -> 1
            """);
        due(all, chain(20) + """
            isLinked(19, 20) -> false
            cluster(19) -> 0
            clusterAnew(19) -> 0
            cluster(20) -> 20
            clusterAnew(20) -> 20
            cluster(39) -> 20
            clusterAnew(39) -> 20
            clusters() -> 2
            missed() -> 400
            isSound() -> true
            """);
        due("a closed one is by itself.", """
            3 x birth(-1, -1, 'f', 0, 0)
            setPrice(0)
            record(0, 0, 0)
            days(9)
            record(1, 0, 0)
            days(9)
            record(2, 0, 0)
            record(1, 0, 1)
            3 x cluster(%) -> 0
            clusters() -> 1
            petition(1, 0, 's')
            days(30)
            decide(0) -> true
            4 x cluster(%) -> %
            4 x clusterAnew(%) -> %
            clusters() -> 2
            doubts() -> 0
            isSound() -> true
            """);
    }

    private static void doubts() {
        String doubt = "It is in doubt if some two of its records have a price of 50 or more, or are of the same book and day.";
        due(doubt, """
            birth(-1, -1, 'f', 0, 0)
            addRule(0, 'a', ' ', 'a', 'a')
            addRule(0, 'n', ' ', 'n', 'n')
            move(0, 1, 0)
            setPrice(99)
            record(0, 0, 0)
            10 x slip(0, false, %, 'z')
            days(199)
            record(0, 0, 0)
            price(0, 1) -> 49                // 3 times 10 letters, and 19
            isLinked(0, 1) -> true
            doubts() -> 0
            days(1)
            record(0, 0, 1)
            price(0, 2) -> 50
            doubts() -> 1
            setPrice(49)
            isLinked(0, 2) -> false
            cluster(2) -> 0
            doubts() -> 1                    // the two of 50 need not be linked directly
            slip(2, false, 9, 'z')
            doubts() -> 0
            """);
        // The dearest link of all is in doubt too.
        due(doubt, """
            birth(-1, -1, 'f', 0, 0)
            birth(-1, -1, 'm', 0, 0)
            addRule(0, 'a', ' ', 'a', 'a')
            addRule(0, 'n', ' ', 'n', 'n')
            2 x move(%, 1, 0)
            record(0, 0, 0)
            13 x slip(0, false, %, 'z')
            days(100)
            record(1, 0, 0)
            price(0, 1) -> 99                // 3 times 13 letters, unlike sexes, and 10
            doubts() -> 0
            setPrice(98)
            doubts() -> 0
            setPrice(99)
            isLinked(0, 1) -> true
            clusters() -> 1
            doubts() -> 1
            """);
        due(doubt, """
            birth(-1, -1, 'f', 0, 0)
            birth(-1, -1, 'm', 0, 0)
            record(0, 0, 0)
            record(1, 0, 1)
            price(0, 1) -> 50
            doubts() -> 0
            setPrice(50)
            doubts() -> 1
            setPrice(49)
            doubts() -> 0
            """);
        due(doubt, """
            birth(-1, -1, 'f', 0, 0)
            record(0, 0, 0)
            record(0, 0, 1)
            days(1)
            record(0, 0, 0)
            record(0, 0, 2)
            clusters() -> 1
            doubts() -> 0                    // of one book, or of one day, but not of both
            record(0, 0, 0)
            price(2, 4) -> 30
            isLinked(2, 4) -> false
            clusters() -> 1
            doubts() -> 1
            doubts() -> 1
            """);
    }

    private static void exceptions() {
        String nothing = "A method that throws an exception changes nothing but the causes of what was refused last.";
        due(nothing, """
            birth(-1, -1, 'f', 0, 0)
            birth(0, -1, 'f', 1, 0)
            cause(0) -> throws.NoSuchElementException
            ban(1, 4, true)
            forbid(2, true)
            birth(0, -1, 'f', 4, 1) -> throws.UnsupportedOperationException
            persons() -> 2
            cause(0) -> 'b'
            birth(0, -1, 'f', 16, 1) -> throws.IllegalArgumentException
            birth(2, -1, 'f', 4, 1) -> throws.IndexOutOfBoundsException
            marry(0, 0) -> throws.UnsupportedOperationException
            decide(0) -> throws.IndexOutOfBoundsException
            cause(2) -> throws.NoSuchElementException
            cause(0) -> 'b'
            causeNumber(0) -> 1
            causeNumber(1) -> 4
            birth(0, -1, 'f', 1, 2) -> throws.UnsupportedOperationException
            cause(0) -> 'l'
            causeNumber(0) -> 1
            causeNumber(1) -> 1
            birth(0, -1, 'f', 1, 1) -> 2
            cause(0) -> 'l'
            """);
        due(nothing, """
            birth(-1, -1, 'f', 0, 0)
            birth(-1, -1, 'm', 0, 0)
            setMarriage(0, 'h')
            deed(0, 1)
            tell(1, 0)
            marry(0, 1) -> 2
            petition(0, 0, 'u') -> 0
            oppose(0, 1) -> 1
            record(0, 0, 0)
            marry(1, 0) -> throws.UnsupportedOperationException
            oppose(0, 1) -> throws.IllegalStateException
            tell(0, 0) -> throws.UnsupportedOperationException
            deed(0, 4) -> throws.IllegalArgumentException
            decide(0) -> throws.UnsupportedOperationException
            slip(0, false, 4, 'z') -> throws.NoSuchElementException
            slip(0, true, 1, 'z') -> throws.NoSuchElementException
            move(0, 1, 4) -> throws.IllegalArgumentException
            petition(0, 16, 's') -> throws.IllegalArgumentException
            addRule(0, 'a', ' ', ' ', 'b') -> throws.IllegalArgumentException
            setLimit(0, 25) -> throws.IllegalArgumentException
            setPrice(100) -> throws.IllegalArgumentException
            days(1000) -> throws.IllegalArgumentException
            days(29) -> 29
            decide(0) -> throws.UnsupportedOperationException
            days(1) -> 30
            decide(0) -> false
            decide(0) -> throws.UnsupportedOperationException
            changes(0) -> 1
            tell(1, 0) -> 1
            """);
    }
}
