import java.nio.file.Files;
import java.nio.file.Path;
import java.util.ArrayList;
import java.util.List;
import java.util.regex.Matcher;
import java.util.regex.Pattern;

/** The text of the class keeps to what a search can see of ../shared/LANGUAGE.md. */
public final class LanguageTest {
    private static final String[] BANNED = {
        "->", "::", "String\\[\\]", "\\btry\\b", "\\bcatch\\b", "\\bfinally\\b", "\\bassert\\b", "\\bsynchronized\\b",
        "\\bvar\\b", "\\bMath\\.\\w*Exact\\b", "\"\\s*\\+", "\\+\\s*\"", "\\bpackage\\b", "\\bdouble\\b.*%", "\\bSystem\\.",
        "\\bcompareTo\\b", "\\.format\\b", "\\.split\\b", "\\.contains\\b", "\\.valueOf\\b", "\\.chars\\b", "\\bnew String\\b",
        "StringBuilder\\([^)]", "\\.hashCode\\b", "\\bstatic \\{", "\\bIterator\\b", "\\bbreak \\w+;"
    };
    private static final List<String> IMPORTS =
            List.of("import java.util.ArrayList;", "import java.util.NoSuchElementException;");

    public static void main(String[] args) throws Exception {
        List<String> lines = Files.readAllLines(Path.of("src/main/java/Namebearers.java"));
        List<String> imports = new ArrayList<>();
        int classes = 0;
        for (String line : lines) {
            String code = line.replaceAll("//.*|/\\*\\*.*\\*/", "");
            if (code.startsWith("import ")) {
                imports.add(code);
                continue;
            }
            classes += code.contains(" class ") ? 1 : 0;
            for (String banned : BANNED) {
                Check.isFalse(banned + " in: " + line, Pattern.compile(banned).matcher(code).find());
            }
            checkThrow(line, code);
            Check.isTrue("signs of 1 to 127 in: " + line, line.chars().allMatch(sign -> sign >= 1 && sign <= 127));
        }
        Check.due("the imports", imports, IMPORTS);
        Check.isTrue("some twelve classes, not " + classes, classes <= 12);
        Check.isTrue("methods of some sixty lines, not " + longestMethod(lines), longestMethod(lines) <= 60);
        Check.finish();
    }

    private static void checkThrow(String line, String code) {
        Matcher thrown = Pattern.compile("\\bthrow\\b(.*)").matcher(code);
        if (thrown.find()) {
            Check.isTrue("a written text is thrown in: " + line, thrown.group(1).matches(" new \\w+\\(\"[^\"]*\"\\);"));
        }
    }

    private static int longestMethod(List<String> lines) {
        int longest = 0;
        int start = -1;
        for (int i = 0; i < lines.size(); i++) {
            String line = lines.get(i);
            if (line.matches(" {4}( {4})?(public|private) .*") && !line.contains(" class ") && !line.contains(";")) {
                start = i;
            } else if (line.matches(" {4}( {4})?\\}") && start >= 0) {
                longest = Math.max(longest, i - start + 1);
                start = -1;
            }
        }
        return longest;
    }
}
