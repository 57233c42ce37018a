/** Where two exceptions of one call apply, the one that is documented first is thrown. */
final class OrderEdges {
    private OrderEdges() {
    }

    static void all() {
        birth();
        marriagesAndByNames();
        moves();
        names();
        laws();
        petitions();
        records();
    }

    private static void due(String lines) {
        Runs.due(Sentences.TERMS, "If several exceptions apply, the one that is documented first is thrown.", lines);
    }

    private static void birth() {
        String banned = "ban(0, 5, true)\nforbid(0, true)\n";
        due(Runs.THREE + banned + """
            birth(3, -1, 'x', 0, 0) -> throws.IndexOutOfBoundsException        // and no such sex
            birth(-1, -2, 'm', 16, 0) -> throws.IndexOutOfBoundsException      // and no such name
            birth(-2, -1, 'm', 0, 4) -> throws.IndexOutOfBoundsException       // and no such land
            birth(3, 3, 'm', 0, 0) -> throws.IndexOutOfBoundsException         // and both are the same
            birth(-2, -2, 'm', 0, 0) -> throws.IndexOutOfBoundsException
            birth(3, -1, 'm', 5, 0) -> throws.IndexOutOfBoundsException        // and it is banned
            birth(0, 3, 'm', 3, 0) -> throws.IndexOutOfBoundsException         // and a child has it
            cause(0) -> throws.NoSuchElementException
            birth(0, 0, 'm', 5, 0) -> throws.IllegalArgumentException          // both are the same, and it is banned
            birth(0, 0, 'm', 3, 0) -> throws.IllegalArgumentException          // and a child has it
            birth(0, 1, 'x', 3, 0) -> throws.IllegalArgumentException
            birth(0, 1, 'x', 5, 0) -> throws.IllegalArgumentException
            cause(0) -> throws.NoSuchElementException
            birth(0, 1, 'm', 5, 0) -> throws.UnsupportedOperationException
            cause(0) -> 'b'
            """);
        due(Runs.THREE + "37 x birth(-1, -1, 'f', 4, 1)\n" + banned + """
            birth(40, -1, 'm', 4, 0) -> throws.IndexOutOfBoundsException       // and there are 40
            birth(-1, 40, 'm', 5, 0) -> throws.IndexOutOfBoundsException
            birth(-2, -1, 'x', 16, 4) -> throws.IndexOutOfBoundsException
            birth(-1, -1, 'x', 4, 0) -> throws.IllegalArgumentException        // and there are 40
            birth(-1, -1, 'm', 16, 0) -> throws.IllegalArgumentException
            birth(-1, -1, 'm', 4, 4) -> throws.IllegalArgumentException
            birth(1, 1, 'm', 4, 0) -> throws.IllegalArgumentException
            birth(1, 1, 'm', 5, 0) -> throws.IllegalArgumentException
            birth(-1, -1, 'm', 5, 0) -> throws.IllegalStateException           // there are 40, and it is banned
            birth(0, 1, 'm', 3, 0) -> throws.IllegalStateException             // and a child has it
            cause(0) -> throws.NoSuchElementException
            """);
    }

    private static void marriagesAndByNames() {
        due(Runs.THREE + """
            birth(-1, -1, 'f', 0, 0)
            marry(0, 1)
            die(2)
            marry(4, 4) -> throws.IndexOutOfBoundsException                    // and both are the same
            marry(-1, -1) -> throws.IndexOutOfBoundsException
            marry(2, 4) -> throws.IndexOutOfBoundsException                    // and one is dead
            marry(4, 2) -> throws.IndexOutOfBoundsException
            marry(0, -1) -> throws.IndexOutOfBoundsException                   // and one is married
            marry(-1, 0) -> throws.IndexOutOfBoundsException
            tell(4, 4) -> throws.IndexOutOfBoundsException                     // and both are the same
            tell(2, 4) -> throws.IndexOutOfBoundsException                     // and one is dead
            tell(4, 2) -> throws.IndexOutOfBoundsException
            tell(-1, 0) -> throws.IndexOutOfBoundsException                    // and there is no by-name
            spouse(4) -> throws.IndexOutOfBoundsException
            """);
        due("""
            5 x birth(-1, -1, 'f', 0, 0)
            deed(0, 1)
            tell(1, 0)
            tell(2, 0)
            tell(3, 0)
            die(4)
            deed(5, 4) -> throws.IndexOutOfBoundsException                     // and no such by-name
            deed(-1, -1) -> throws.IndexOutOfBoundsException
            deed(4, 4) -> throws.IllegalArgumentException                      // no such by-name, and dead
            deed(0, 4) -> throws.IllegalArgumentException                      // and one sticks
            deed(0, -1) -> throws.IllegalArgumentException
            die(0)
            deed(0, 4) -> throws.IllegalArgumentException                      // and dead, and one sticks
            deed(0, 0) -> throws.UnsupportedOperationException                 // dead, and one sticks
            """);
    }

    private static void moves() {
        due(Runs.THREE + """
            die(2)
            move(3, 4, 0) -> throws.IndexOutOfBoundsException                  // and no such land
            move(3, 0, 4) -> throws.IndexOutOfBoundsException                  // and no such clerk
            move(-1, -1, -1) -> throws.IndexOutOfBoundsException
            move(2, 4, 0) -> throws.IllegalArgumentException                   // no such land, and dead
            move(2, 1, 4) -> throws.IllegalArgumentException                   // no such clerk, and dead
            move(2, 1, -1) -> throws.IllegalArgumentException
            move(2, 0, 0) -> throws.IllegalArgumentException                   // there already, and dead
            move(2, 1, 0) -> throws.UnsupportedOperationException
            """);
    }

    private static void names() {
        due(Runs.ONE + """
            length(1, 'x') -> throws.IndexOutOfBoundsException                 // and no such name
            length(-1, 'x') -> throws.IndexOutOfBoundsException
            letter(1, 'x', 0) -> throws.IndexOutOfBoundsException
            letter(1, 'g', 9) -> throws.IndexOutOfBoundsException              // and no such sign
            letter(-1, 'x', -1) -> throws.IndexOutOfBoundsException            // and neither
            letter(0, 'x', 9) -> throws.IllegalArgumentException               // no such name, and no such sign
            letter(0, 'x', -1) -> throws.IllegalArgumentException
            wasCalled(1, 0, 0) -> throws.IndexOutOfBoundsException             // and no such change
            wasCalled(-1, -1, -1) -> throws.IndexOutOfBoundsException
            fashion(1, 0) -> throws.IllegalArgumentException                   // backwards, and no births
            fashion(9, 3) -> throws.IllegalArgumentException
            """);
    }

    private static void laws() {
        due("""
            8 x addRule(0, 'a', ' ', 'b', ' ')
            addRule(0, 'A', ' ', 'b', ' ') -> throws.IllegalArgumentException  // no letter, and there are 8
            addRule(0, 'a', 'A', 'b', ' ') -> throws.IllegalArgumentException
            addRule(0, 'a', ' ', 'B', ' ') -> throws.IllegalArgumentException
            addRule(0, 'a', ' ', 'b', 'B') -> throws.IllegalArgumentException
            addRule(0, 'a', ' ', ' ', 'b') -> throws.IllegalArgumentException
            addRule(4, 'a', ' ', 'b', ' ') -> throws.IllegalArgumentException
            addRule(0, 'a', ' ', 'b', ' ') -> throws.IllegalStateException
            """);
    }

    private static void petitions() {
        due(Runs.THREE + """
            die(2)
            petition(3, 16, 'm') -> throws.IndexOutOfBoundsException           // and no such name
            petition(3, 0, 'x') -> throws.IndexOutOfBoundsException            // and no such ground
            petition(2, 16, 'm') -> throws.IllegalArgumentException            // no such name, and dead
            petition(2, 0, 'x') -> throws.IllegalArgumentException             // no such ground, and dead
            20 x petition(0, 0, 'm')
            petition(3, 0, 'm') -> throws.IndexOutOfBoundsException            // and there are 20
            petition(-1, 16, 'x') -> throws.IndexOutOfBoundsException
            petition(0, 16, 'm') -> throws.IllegalArgumentException            // and there are 20
            petition(0, 0, 'x') -> throws.IllegalArgumentException
            petition(2, 16, 'x') -> throws.IllegalArgumentException            // and dead, and there are 20
            petition(2, 0, 'm') -> throws.UnsupportedOperationException        // dead, and there are 20
            petition(0, 0, 'm') -> throws.IllegalStateException
            """);
        due("""
            6 x birth(-1, -1, 'f', 0, 0)
            petition(0, 0, 's') -> 0
            petition(0, 0, 'm') -> 1
            petition(0, 0, 'u') -> 2
            oppose(1, 1) -> 1
            oppose(1, 2) -> 2
            oppose(1, 3) -> 3
            oppose(2, 4) -> 1
            oppose(0, 6) -> throws.IndexOutOfBoundsException                   // and it is for safety
            oppose(3, 0) -> throws.IndexOutOfBoundsException                   // and it is the same person
            oppose(3, 6) -> throws.IndexOutOfBoundsException
            die(1)
            oppose(3, 1) -> throws.IndexOutOfBoundsException                   // and this one is dead
            oppose(1, 1) -> throws.UnsupportedOperationException               // dead, and opposes it already
            move(2, 1, 0)
            oppose(1, 2) -> throws.UnsupportedOperationException               // of another land, and opposes it already
            addRule(0, 'a', ' ', 'o', ' ')
            move(3, 1, 0)
            move(3, 0, 0)
            oppose(1, 3) -> throws.UnsupportedOperationException               // of another name, and opposes it already
            oppose(2, 4) -> throws.IllegalStateException
            days(30)
            decide(2) -> false
            oppose(2, 4) -> throws.UnsupportedOperationException               // decided, and this one opposes it already
            oppose(2, 6) -> throws.IndexOutOfBoundsException                   // and it was decided
            decide(3) -> throws.IndexOutOfBoundsException
            """);
    }

    private static void records() {
        due(Runs.ONE + """
            40 x record(0, 0, 0)
            record(1, 4, 0) -> throws.IndexOutOfBoundsException                // and no such clerk
            record(1, 0, 4) -> throws.IndexOutOfBoundsException                // and no such book
            record(1, 0, 0) -> throws.IndexOutOfBoundsException                // and there are 40
            record(-1, -1, -1) -> throws.IndexOutOfBoundsException
            record(0, 4, 0) -> throws.IllegalArgumentException                 // and there are 40
            record(0, 0, 4) -> throws.IllegalArgumentException
            record(0, 0, -1) -> throws.IllegalArgumentException
            record(0, 0, 0) -> throws.IllegalStateException
            slip(40, false, 0, 'A') -> throws.IndexOutOfBoundsException        // and no letter
            slip(40, false, 9, 'a') -> throws.IndexOutOfBoundsException        // and no such sign
            slip(-1, true, -1, '-') -> throws.IndexOutOfBoundsException
            slip(0, false, 4, 'A') -> throws.IllegalArgumentException          // no letter, and no such sign
            slip(0, true, 0, ' ') -> throws.IllegalArgumentException
            slip(0, false, -1, '-') -> throws.IllegalArgumentException
            slip(0, true, 0, 'a') -> throws.NoSuchElementException
            written(40, false, 9) -> throws.IndexOutOfBoundsException          // and no such sign
            written(-1, true, -1) -> throws.IndexOutOfBoundsException
            key(40, false, 4) -> throws.IndexOutOfBoundsException              // and the index is out of range
            key(-1, true, -1) -> throws.IndexOutOfBoundsException
            """);
    }
}
