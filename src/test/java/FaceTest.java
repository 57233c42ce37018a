import java.lang.reflect.Constructor;
import java.lang.reflect.Field;
import java.lang.reflect.Method;
import java.lang.reflect.Modifier;
import java.nio.file.Files;
import java.nio.file.Path;
import java.util.ArrayList;
import java.util.Arrays;
import java.util.List;
import java.util.Set;
import java.util.TreeSet;

/** The public face is the one that the document prints, and the class has no other member that is not private. */
public final class FaceTest {
    public static void main(String[] args) throws Exception {
        Set<String> promised = promisedLines(Files.readAllLines(Path.of("../shared/DOC.md")));
        Set<String> built = new TreeSet<>();
        Set<String> publicNames = new TreeSet<>();
        for (Method method : Namebearers.class.getDeclaredMethods()) {
            if (Modifier.isPublic(method.getModifiers())) {
                built.add(lineOf(method));
                publicNames.add(method.getName());
            }
        }
        Check.due("the face", built, promised);
        Check.due("the number of methods", built.size(), 52);
        Check.isTrue("the class is public and final",
                Modifier.isPublic(Namebearers.class.getModifiers()) && Modifier.isFinal(Namebearers.class.getModifiers()));
        for (Constructor<?> constructor : Namebearers.class.getDeclaredConstructors()) {
            Check.isTrue("the constructor", Modifier.isPublic(constructor.getModifiers())
                    && constructor.getParameterCount() == 0);
        }
        for (Method method : Namebearers.class.getDeclaredMethods()) {
            boolean isPublic = Modifier.isPublic(method.getModifiers());
            Check.isTrue(method + " is public or private", isPublic || Modifier.isPrivate(method.getModifiers()));
        }
        checkFields(Namebearers.class);
        for (Class<?> inside : Namebearers.class.getDeclaredClasses()) {
            checkInside(inside, publicNames);
        }
        Check.finish();
    }

    private static Set<String> promisedLines(List<String> document) {
        Set<String> lines = new TreeSet<>();
        for (String line : document) {
            boolean isMethod = line.startsWith("    public ") && line.endsWith(";") && !line.contains(" Namebearers(");
            if (isMethod) {
                lines.add(line.strip().replaceAll("\\b(int|char|boolean) \\w+([,)])", "$1$2"));
            }
        }
        return lines;
    }

    private static String lineOf(Method method) {
        List<String> parameters = new ArrayList<>();
        for (Class<?> parameter : method.getParameterTypes()) {
            parameters.add(parameter.getSimpleName());
        }
        List<String> exceptions = new ArrayList<>();
        for (Class<?> exception : method.getExceptionTypes()) {
            exceptions.add(exception.getSimpleName());
        }
        String ending = exceptions.isEmpty() ? ";" : " throws " + String.join(", ", exceptions) + ";";
        return "public " + method.getReturnType().getSimpleName() + " " + method.getName()
                + "(" + String.join(", ", parameters) + ")" + ending;
    }

    private static void checkFields(Class<?> owner) {
        for (Field field : owner.getDeclaredFields()) {
            Check.isTrue(field + " is private", Modifier.isPrivate(field.getModifiers()));
            boolean isState = Modifier.isStatic(field.getModifiers()) && !Modifier.isFinal(field.getModifiers());
            Check.isFalse(field + " is static state", isState);
        }
    }

    private static void checkInside(Class<?> inside, Set<String> publicNames) {
        checkFields(inside);
        Check.isTrue(inside + " is static and private",
                Modifier.isStatic(inside.getModifiers()) && Modifier.isPrivate(inside.getModifiers()));
        for (Method method : inside.getDeclaredMethods()) {
            Check.isFalse(method + " bears a name of the face", publicNames.contains(method.getName()));
            boolean isOfObject = Arrays.asList("equals", "hashCode", "toString").contains(method.getName());
            Check.isFalse(method + " stands in for one of Object", isOfObject);
        }
    }
}
