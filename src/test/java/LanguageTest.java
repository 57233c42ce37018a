import com.sun.source.tree.CompilationUnitTree;
import com.sun.source.tree.ImportTree;
import com.sun.source.util.JavacTask;
import com.sun.source.util.Trees;
import java.nio.file.Files;
import java.nio.file.Path;
import java.util.List;
import javax.tools.JavaCompiler;
import javax.tools.StandardJavaFileManager;
import javax.tools.ToolProvider;

/**
 * The class keeps to ../shared/LANGUAGE.md, as far as its text shows it: the compiler reads it, and each class, member,
 * type, call and statement is held against the rules. Where the class does without what a rule allows, as recursion or
 * try, this test does not allow it either. That no call throws by itself (rule 7) is for ModelTest and EdgesTest to see.
 */
public final class LanguageTest {
    private static final Path SOURCE = Path.of("src/main/java/Namebearers.java");
    private static final List<String> IMPORTS =
            List.of("java.util.ArrayList", "java.util.List", "java.util.Arrays", "java.util.NoSuchElementException",
                    "java.util.Iterator");

    public static void main(String[] args) throws Exception {
        JavaCompiler compiler = ToolProvider.getSystemJavaCompiler();
        try (StandardJavaFileManager files = compiler.getStandardFileManager(null, null, null)) {
            JavacTask task = (JavacTask) compiler.getTask(null, files, null, List.of("-proc:none"), null,
                    files.getJavaFileObjects(SOURCE));
            CompilationUnitTree unit = task.parse().iterator().next();
            task.analyze();
            checkFile(unit);
            Rules rules = new Rules(Trees.instance(task), unit);
            rules.scan(unit, null);
            rules.finish();
        }
        Check.finish();
    }

    private static void checkFile(CompilationUnitTree unit) throws Exception {
        Check.promise(0, "rules 1, 3 and 4: one file");
        Check.isTrue("there is no package line", unit.getPackage() == null);
        Check.due("the number of classes in the file", unit.getTypeDecls().size(), 1);
        for (ImportTree imported : unit.getImports()) {
            Check.isTrue(imported.toString(), IMPORTS.contains(imported.getQualifiedIdentifier().toString()));
        }
        Check.isTrue("the text has signs of 1 to 127 alone",
                Files.readString(SOURCE).chars().allMatch(sign -> sign >= 1 && sign <= 127));
    }
}
