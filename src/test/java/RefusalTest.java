import java.util.Random;
import java.util.function.Function;

/** What a call refuses changes nothing that another call could tell, but for the causes of a refused birth. */
public final class RefusalTest {
    private static final int ATTEMPTS = 20000;

    private interface Call {
        void on(Namebearers x);
    }

    public static void main(String[] args) {
        Check.promise(0, "exceptions");
        Random random = new Random(7L);
        Namebearers x = filled();
        String before = told(x);
        int refused = 0;
        for (int i = 0; i < ATTEMPTS; i++) {
            Call call = wrongCall(random);
            try {
                call.on(x);
                Check.fail("a wrong call was answered, attempt " + i);
            } catch (RuntimeException e) {
                refused++;
                if (!Check.isOurs(e)) {
                    Check.fail("the machine threw " + e);
                }
            }
            if (i % 100 == 0) {
                Check.due("what is told behind attempt " + i, told(x), before);
            }
        }
        Check.due("refused", refused, ATTEMPTS);
        Check.due("what is told at the end", told(x), before);
        hiddenStateStays();
        Check.finish();
    }

    private static Namebearers filled() {
        Namebearers x = new Namebearers();
        x.setMarriage(1, 'h');
        x.ban(3, 5, true);
        x.forbid(2, true);
        for (int i = 0; i < 40; i++) {
            x.birth(i % 3 == 0 || i < 2 ? -1 : i / 2 - 1, i % 4 == 0 ? -1 : i / 2, i % 2 == 0 ? 'f' : 'm',
                    i % 13 == 5 ? 6 : i % 13, i % 4);
            x.days(1 + i % 9);
        }
        x.marry(1, 2);
        x.marry(9, 10);
        x.deed(20, 2);
        x.tell(5, 20);
        x.tell(6, 20);
        x.tell(7, 20);
        x.addRule(0, 'a', 'n', 'e', ' ');
        x.move(4, 2, 0);
        for (int i = 0; i < 20; i++) {
            x.petition(i, (i + 3) % 16, "mus".charAt(i % 3));
        }
        x.days(30);
        for (int i = 0; i < 6; i++) {
            x.decide(i);
        }
        x.die(30);
        for (int i = 0; i < 40; i++) {
            x.record(i % 17, i % 4, i % 3);
        }
        for (int i = 0; i < 8; i++) {
            x.addRule(3, 'a', ' ', 'e', ' ');
        }
        return x;
    }

    private static Call wrongCall(Random random) {
        int high = pick(random, 40, 41, 64, 1000, Integer.MAX_VALUE, -1, -2, Integer.MIN_VALUE);
        int small = pick(random, 4, 5, 100, Integer.MAX_VALUE, -1, Integer.MIN_VALUE);
        int right = random.nextInt(4);
        boolean isSecond = random.nextBoolean();
        Call[] calls = {
            x -> x.days(pick(random, 0, -1, 1000)), x -> x.setSystem(small, 'd'), x -> x.setSystem(right, 'x'),
            x -> x.setMarriage(small, 'k'), x -> x.setMarriage(right, 'x'), x -> x.ban(small, 0, true),
            x -> x.ban(right, pick(random, -1, 16), true), x -> x.forbid(small, true),
            x -> x.birth(-1, -1, 'm', 0, right), x -> x.birth(high == -1 ? 40 : high, -1, 'm', 0, right),
            x -> x.die(high), x -> x.die(30), x -> x.marry(high, 0), x -> x.marry(0, high), x -> x.marry(0, 30),
            x -> x.marry(1, 0), x -> x.marry(0, 2), x -> x.marry(0, 0), x -> x.spouse(high), x -> x.spouse(0),
            x -> x.deed(high, 0), x -> x.deed(0, small), x -> x.deed(30, 0), x -> x.deed(20, 0),
            x -> x.tell(high, 20), x -> x.tell(20, high), x -> x.tell(20, 20), x -> x.tell(0, 1), x -> x.tell(30, 20),
            x -> x.move(high, 0, 0), x -> x.move(0, small, 0), x -> x.move(0, 1, small), x -> x.move(0, 0, 0),
            x -> x.move(30, 0, 0), x -> x.length(high, 'g'), x -> x.length(0, 'x'), x -> x.letter(high, 'g', 0),
            x -> x.letter(0, 'g', high), x -> x.changes(high), x -> x.wasCalled(high, 0, 0), x -> x.wasCalled(4, high, 0),
            x -> x.wasCalled(4, 0, high), x -> x.bearers(pick(random, -1, 16)), x -> x.fashion(3, 2),
            x -> x.fashion(-9, -1), x -> x.addRule(3, 'a', ' ', ' ', ' '), x -> x.addRule(small, 'a', ' ', ' ', ' '),
            x -> x.addRule(0, 'a', ' ', ' ', 'b'), x -> x.dropRules(small), x -> x.setLimit(0, pick(random, 0, 25)),
            x -> x.setLimit(small, 5), x -> x.petition(high, 0, 'm'), x -> x.petition(0, 0, 'm'),
            x -> x.petition(0, 16, 'm'), x -> x.petition(30, 1, 'u'), x -> x.oppose(high, 0), x -> x.oppose(7, high),
            x -> x.oppose(7, 30), x -> x.oppose(0, 3), x -> x.oppose(8, 1), x -> x.decide(high), x -> x.decide(0),
            x -> x.record(high, 0, 0), x -> x.record(0, small, 0), x -> x.record(0, 0, small), x -> x.record(0, 0, 0),
            x -> x.slip(high, isSecond, 0, 'a'), x -> x.slip(0, isSecond, 0, 'A'), x -> x.slip(0, isSecond, high, 'a'),
            x -> x.writtenLength(high, isSecond), x -> x.written(high, isSecond, 0), x -> x.written(0, isSecond, high),
            x -> x.key(high, isSecond, 0), x -> x.key(0, isSecond, small), x -> x.isClosed(high), x -> x.sorted(high),
            x -> x.setPrice(pick(random, -1, 100)), x -> x.price(high, 0), x -> x.price(0, high),
            x -> x.distance(high, 0, isSecond), x -> x.isLinked(0, high), x -> x.cluster(high), x -> x.clusterAnew(high),
            x -> x.cause(pick(random, -1, 0, 1, 2)), x -> x.causeNumber(pick(random, -1, 0, 1, 2)),
        };
        return calls[random.nextInt(calls.length)];
    }

    private static int pick(Random random, int... values) {
        return values[random.nextInt(values.length)];
    }

    private static String answer(Namebearers x, Function<Namebearers, Object> call) {
        try {
            return call.apply(x) + " ";
        } catch (RuntimeException e) {
            return e.getClass().getSimpleName() + " ";
        }
    }

    /** All that questions tell of an object. */
    private static String told(Namebearers x) {
        StringBuilder text = new StringBuilder();
        text.append(x.persons()).append(' ').append(x.records()).append(' ').append(x.print()).append('\n');
        for (int i = 0; i < x.persons(); i++) {
            int person = i;
            for (char what : "gsbfo".toCharArray()) {
                text.append(Check.name(x, i, what)).append(';');
            }
            text.append(x.isAlive(i)).append(x.isSealed(i)).append(x.landOf(i)).append(x.changes(i));
            text.append(answer(x, y -> y.spouse(person)));
            for (int change = 0; change < x.changes(i); change++) {
                text.append(x.wasCalled(i, change, 0));
            }
            text.append('\n');
        }
        for (int i = 0; i < 16; i++) {
            int given = i;
            text.append(answer(x, y -> y.bearers(given))).append(answer(x, y -> y.fashion(given * 9, given * 9 + 8)));
        }
        for (int i = 0; i < x.records(); i++) {
            text.append('\n').append(Check.written(x, i, false)).append(' ').append(Check.written(x, i, true));
            text.append(Check.key(x, i, false)).append(Check.key(x, i, true)).append(x.isClosed(i)).append(x.sorted(i));
            text.append(' ').append(x.cluster(i)).append(' ').append(x.clusterAnew(i));
            for (int j = 0; j < x.records(); j++) {
                text.append(' ').append(x.price(i, j)).append(x.isLinked(i, j));
            }
        }
        text.append(x.clusters()).append(' ').append(x.doubts()).append(' ').append(x.wrong()).append(' ');
        text.append(x.missed()).append(answer(x, Namebearers::closedShare)).append(answer(x, Namebearers::meanPrice));
        text.append(answer(x, y -> y.cause(0))).append(x.isSound());
        return text.toString();
    }

    /** What the refused calls would have set stays as it was: days, systems, laws, rules, limits, petitions, tellers. */
    private static void hiddenStateStays() {
        Namebearers x = filled();
        Namebearers y = filled();
        Random random = new Random(11L);
        for (int i = 0; i < ATTEMPTS; i++) {
            try {
                wrongCall(random).on(x);
            } catch (RuntimeException e) {
                continue;
            }
        }
        same("days", x, y, z -> z.days(1));
        for (int i = 0; i < 4; i++) {
            int land = i;
            same("setSystem", x, y, z -> z.setSystem(land, 'p'));
            same("setMarriage", x, y, z -> z.setMarriage(land, 'k'));
            same("forbid", x, y, z -> z.forbid(land, true));
            same("setLimit", x, y, z -> z.setLimit(land, 24));
            same("dropRules", x, y, z -> z.dropRules(land));
            for (int name = 0; name < 16; name++) {
                int given = name;
                same("ban", x, y, z -> z.ban(land, given, false));
            }
        }
        same("setPrice", x, y, z -> z.setPrice(12));
        same("tell", x, y, z -> z.tell(8, 20));
        for (int i = 0; i < 20; i++) {
            int petition = i;
            same("decide", x, y, z -> z.decide(petition));
        }
        for (int i = 0; i < 40; i++) {
            int person = i;
            same("deed", x, y, z -> z.deed(person, 0));
        }
    }

    private static void same(String what, Namebearers x, Namebearers y, Function<Namebearers, Object> call) {
        Check.due(what, answer(x, call), answer(y, call));
    }
}
