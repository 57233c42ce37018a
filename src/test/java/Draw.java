import java.util.Random;

/** Draws the arguments of calls, most of them right ones: persons, records and petitions that are there by then. */
final class Draw {
    private static final int WILD_ONE_OF = 60;

    private final Random random;
    private final PlainRegister plain;
    private final int names;

    /** Half of all given names are drawn among the first ones, so many of them. */
    Draw(Random random, PlainRegister plain, int names) {
        this.random = random;
        this.plain = plain;
        this.names = names;
    }

    /** A letter tells each argument: p, P a person, c a record, q a petition; - stands for none at all. */
    Object[] all(String kinds) {
        if (kinds.equals("-")) {
            return new Object[0];
        }
        Object[] arguments = new Object[kinds.length()];
        for (int i = 0; i < arguments.length; i++) {
            arguments[i] = one(kinds.charAt(i));
        }
        if (kinds.equals("tt") && random.nextInt(6) != 0 && (int) arguments[0] > (int) arguments[1]) {
            return new Object[] {arguments[1], arguments[0]};
        }
        if (kinds.equals("qp") && random.nextBoolean()) {
            arguments[1] = opposerOf((int) arguments[0], (int) arguments[1]);
        }
        return arguments;
    }

    private Object one(char kind) {
        boolean isWild = random.nextInt(WILD_ONE_OF) == 0;
        switch (kind) {
            case 'd': return isWild ? wild() : among(1, 2, 7, 10, 15, 29, 30, 31, 1 + random.nextInt(999));
            case 's': return isWild ? wildSign() : signOf("pmicd");
            case 'r': return isWild ? wildSign() : signOf("kmth");
            case 'x': return isWild ? wildSign() : signOf("mf");
            case 'g': return isWild ? wildSign() : signOf("mus");
            case 'w': return isWild ? wildSign() : signOf("gsbfo");
            case 'l': return isWild ? wildSign() : random.nextInt(3) == 0 ? ' ' : signOf("annejorlkisdbgt");
            case 'L': case 'K': case 'b': case 'B': return isWild ? wild() : random.nextInt(4);
            case 'G': return isWild ? wild() : random.nextInt(random.nextBoolean() ? 16 : names);
            case 'P': return isWild ? wild() : random.nextInt(3) == 0 ? -1 : there(plain.all.size(), 12);
            case 'p': return isWild ? wild() : there(plain.all.size(), 8);
            case 'q': return isWild ? wild() : there(plain.asked.size(), 20);
            case 'c': return isWild ? wild() : there(plain.lines.size(), 40);
            case 'D': return isWild ? wild() : random.nextInt(3);
            case 'i': return isWild ? wild() : random.nextInt(random.nextBoolean() ? 5 : 30);
            case 'M': return isWild ? wild() : among(1, 2, 6, 12, 23, 24, 24, 24, 24, 24);
            case 'm': return isWild ? wild() : among(0, 4, 12, 20, 40, 80, 99);
            case 't': return isWild ? wild() : random.nextInt(2000);
            default: return random.nextBoolean();
        }
    }

    /** The first ones are drawn more often, so that much befalls some; seldom is it one more than there are. */
    private Integer there(int size, int first) {
        int most = random.nextInt(20) == 0 ? size + 1 : size;
        if (most > 1 && random.nextInt(8) == 0) {
            return most - 1;
        }
        return random.nextInt(Math.max(1, random.nextInt(3) == 0 ? most : Math.min(most, first)));
    }

    private int opposerOf(int petition, int otherwise) {
        if (petition < 0 || petition >= plain.asked.size()) {
            return otherwise;
        }
        PlainRegister.Asked asked = plain.asked.get(petition);
        int from = random.nextInt(plain.all.size());
        for (int i = 0; i < plain.all.size(); i++) {
            int by = (from + i) % plain.all.size();
            PlainRegister.Somebody one = plain.all.get(by);
            boolean hasName = one.given.equals(PlainRegister.GIVEN.get(asked.given));
            if (hasName && one.land == plain.all.get(asked.person).land && by != asked.person) {
                return by;
            }
        }
        return otherwise;
    }

    private Integer among(int... values) {
        return values[random.nextInt(values.length)];
    }

    private Character signOf(String signs) {
        return signs.charAt(random.nextInt(signs.length()));
    }

    private Integer wild() {
        return among(-1, -2, 4, 5, 16, 20, 25, 40, 41, 64, 100, 1000, Integer.MAX_VALUE, Integer.MIN_VALUE, 0);
    }

    private Character wildSign() {
        return (char) (int) among('a' - 1, 'z' + 1, 'A', '-', ' ', 0, 255, 65535, 'M', 'q');
    }
}
