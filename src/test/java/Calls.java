import java.lang.reflect.InvocationTargetException;
import java.lang.reflect.Method;
import java.lang.reflect.Modifier;
import java.util.ArrayList;
import java.util.HashMap;
import java.util.List;
import java.util.Map;

/**
 * Calls of one new object, told as text: birth(-1, -1, 'f', 0, 0). A sign may be told by its number, as #65535, and the
 * lowest and the highest int as MIN and MAX. Answers are texts too: 5, 'a', true, or throws.IllegalArgumentException.
 */
final class Calls {
    /** The document promises nothing of an object behind so many calls, so no test makes more. */
    static final int MOST = 512;
    private static final Map<String, Method> FACE = face();

    private final Namebearers x = new Namebearers();
    private int made = 0;

    Calls(List<String> script) {
        for (String call : script) {
            answer(call);
        }
    }

    private static Map<String, Method> face() {
        Map<String, Method> face = new HashMap<>();
        for (Method method : Namebearers.class.getDeclaredMethods()) {
            if (Modifier.isPublic(method.getModifiers())) {
                face.put(method.getName(), method);
            }
        }
        return face;
    }

    String answer(String call) {
        String name = call.substring(0, call.indexOf('('));
        List<String> told = arguments(call);
        return FACE.containsKey(name) ? answerOf(FACE.get(name), told) : wholeText(name, told);
    }

    int number(String call) {
        return Integer.parseInt(answer(call));
    }

    private static List<String> arguments(String call) {
        List<String> told = new ArrayList<>();
        String inside = call.substring(call.indexOf('(') + 1, call.lastIndexOf(')'));
        if (!inside.isEmpty()) {
            told.addAll(List.of(inside.split(", ")));
        }
        return told;
    }

    private String answerOf(Method method, List<String> told) {
        Object[] arguments = new Object[method.getParameterCount()];
        for (int i = 0; i < arguments.length; i++) {
            arguments[i] = argument(told.get(i), method.getParameterTypes()[i]);
        }
        made++;
        if (made > MOST) {
            throw new IllegalStateException("a test makes more than 512 calls");
        }
        String answer = answerOf(method, arguments);
        Seen.note(method, arguments, answer);
        return answer;
    }

    private String answerOf(Method method, Object[] arguments) {
        try {
            return shown(method.invoke(x, arguments));
        } catch (InvocationTargetException e) {
            String thrown = "throws." + e.getCause().getClass().getSimpleName();
            return Check.isOurs(e.getCause()) ? thrown : thrown + " of the machine";
        } catch (IllegalAccessException e) {
            throw new IllegalStateException(e);
        }
    }

    static Iterable<Method> allOfTheFace() {
        return FACE.values();
    }

    private static Object argument(String told, Class<?> type) {
        if (type == boolean.class) {
            return Boolean.valueOf(told);
        }
        if (type == char.class) {
            return told.startsWith("#") ? (char) Integer.parseInt(told.substring(1)) : told.charAt(1);
        }
        return told.equals("MIN") ? Integer.MIN_VALUE : told.equals("MAX") ? Integer.MAX_VALUE : Integer.parseInt(told);
    }

    private static String shown(Object answer) {
        return answer instanceof Character ? "'" + answer + "'" : String.valueOf(answer);
    }

    /** name(person, kind), text(record, isSecond), sound(record, isSecond), was(person, change): all signs at once. */
    private String wholeText(String name, List<String> told) {
        String two = told.get(0) + ", " + told.get(1);
        switch (name) {
            case "name": return signs("letter(" + two, number("length(" + two + ")"));
            case "text": return signs("written(" + two, number("writtenLength(" + two + ")"));
            case "sound": return signs("key(" + two, 4);
            case "was": return signs("wasCalled(" + two, Integer.parseInt(told.get(2)));
            default: throw new IllegalStateException("no call " + name);
        }
    }

    private String signs(String beginning, int count) {
        StringBuilder text = new StringBuilder("\"");
        for (int i = 0; i < count; i++) {
            String sign = answer(beginning + ", " + i + ")");
            text.append(sign.startsWith("'") ? sign.substring(1, sign.length() - 1) : sign);
        }
        return text.append('"').toString();
    }

    int made() {
        return made;
    }
}
