import java.util.Objects;

/** What the tests of the project share: answers that are due, exceptions that are due, and the count of failures. */
final class Check {
    private static int failures = 0;
    private static int checks = 0;
    private static String promise = "";

    private Check() {
    }

    interface Call {
        Object run();
    }

    static void promise(int number, String name) {
        promise = number + " " + name;
    }

    static void due(String what, Object got, Object want) {
        checks++;
        if (!Objects.equals(got, want)) {
            fail(what + " answered " + got + ", due is " + want);
        }
    }

    static void isTrue(String what, boolean got) {
        due(what, got, true);
    }

    static void isFalse(String what, boolean got) {
        due(what, got, false);
    }

    static void refuses(String what, Class<? extends RuntimeException> want, Call call) {
        checks++;
        try {
            Object got = call.run();
            fail(what + " answered " + got + ", due is " + want.getSimpleName());
        } catch (RuntimeException e) {
            if (e.getClass() != want || !isOurs(e)) {
                fail(what + " threw " + e + ", due is " + want.getSimpleName());
            }
        }
    }

    /** Whether a throw statement of the class threw it, not the machine and not the library. */
    static boolean isOurs(Throwable e) {
        StackTraceElement[] trace = e.getStackTrace();
        boolean isFromClass = trace.length > 0 && trace[0].getClassName().startsWith("Namebearers");
        return isFromClass && !"/ by zero".equals(e.getMessage());
    }

    static void fail(String what) {
        failures++;
        System.out.println("promise " + promise + ": " + what);
    }

    static String name(Namebearers x, int person, char what) {
        StringBuilder text = new StringBuilder();
        for (int i = 0; i < x.length(person, what); i++) {
            text.append(x.letter(person, what, i));
        }
        return text.toString();
    }

    static String wasCalled(Namebearers x, int person, int index, int signs) {
        StringBuilder text = new StringBuilder();
        for (int i = 0; i < signs; i++) {
            text.append(x.wasCalled(person, index, i));
        }
        return text.toString();
    }

    static String written(Namebearers x, int record, boolean isSecond) {
        StringBuilder text = new StringBuilder();
        for (int i = 0; i < x.writtenLength(record, isSecond); i++) {
            text.append(x.written(record, isSecond, i));
        }
        return text.toString();
    }

    static String key(Namebearers x, int record, boolean isSecond) {
        StringBuilder text = new StringBuilder();
        for (int i = 0; i < 4; i++) {
            text.append(x.key(record, isSecond, i));
        }
        return text.toString();
    }

    static void finish() {
        System.out.println(checks + " checks, " + failures + " failures");
        if (failures != 0) {
            System.exit(1);
        }
    }
}
