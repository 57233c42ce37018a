import java.io.IOException;
import java.nio.file.Files;
import java.nio.file.Path;
import java.util.ArrayList;
import java.util.List;
import java.util.stream.Collectors;
import java.util.stream.Stream;

/** What README.md shows works as it is written: the example, and each command on a clean checkout. */
public final class ReadmeTest {
    private static final List<String> KEPT = List.of("README.md", ".ci", "src");

    public static void main(String[] args) throws Exception {
        Check.promise(0, "README.md");
        Path home = Files.createTempDirectory("readme");
        Path checkout = Files.createDirectory(home.resolve("checkout"));
        Files.createSymbolicLink(home.resolve("shared"), Path.of("../shared").toRealPath());
        try {
            for (String kept : KEPT) {
                copy(Path.of(kept), checkout.resolve(kept));
            }
            String text = Files.readString(Path.of("README.md"));
            checkCommands(blocksOf(text, "sh"), checkout);
            checkExample(blocksOf(text, "java"), blocksOf(text, "text"), checkout);
        } finally {
            delete(home);
        }
        Check.finish();
    }

    private static List<String> blocksOf(String text, String kind) {
        List<String> blocks = new ArrayList<>();
        String[] parts = text.split("```");
        for (int i = 1; i < parts.length; i += 2) {
            if (parts[i].startsWith(kind + "\n")) {
                blocks.add(parts[i].substring(kind.length() + 1));
            }
        }
        return blocks;
    }

    private static void checkCommands(List<String> blocks, Path checkout) throws Exception {
        List<String> seen = new ArrayList<>();
        for (String block : blocks) {
            for (String command : block.strip().split("\n")) {
                seen.add(command);
                // This test is a part of what .ci/run does, so that one has to be there, no more.
                if (command.equals(".ci/run")) {
                    Check.isTrue(command + " can be run", Files.isExecutable(checkout.resolve(command)));
                } else {
                    String printed = printedBy(checkout, "sh", "-c", command);
                    Check.isTrue(command + " printed " + printed, printed.endsWith("exit code 0"));
                }
            }
        }
        Check.isTrue(".ci/run is told", seen.contains(".ci/run"));
        Check.isTrue("more than that is told", seen.size() > 1);
    }

    private static void checkExample(List<String> programs, List<String> outputs, Path checkout) throws Exception {
        Check.due("programs with an output", programs.size(), outputs.size());
        Check.isTrue("there is an example", !programs.isEmpty());
        for (int i = 0; i < Math.min(programs.size(), outputs.size()); i++) {
            Files.writeString(checkout.resolve("Example.java"), programs.get(i));
            String compiled = printedBy(checkout, "javac", "-d", "out/example", "-cp", "out/classes", "Example.java");
            Check.due("javac of the example", compiled, "exit code 0");
            String printed = printedBy(checkout, "java", "-cp", "out/classes:out/example", "Example");
            Check.due("the example", printed, outputs.get(i) + "exit code 0");
        }
    }

    private static String printedBy(Path folder, String... command) throws Exception {
        Process process = new ProcessBuilder(command).directory(folder.toFile()).redirectErrorStream(true).start();
        process.getOutputStream().close();
        String printed = new String(process.getInputStream().readAllBytes());
        return printed + "exit code " + process.waitFor();
    }

    private static void copy(Path from, Path to) throws IOException {
        for (Path path : allBelow(from)) {
            Files.copy(path, to.resolve(from.relativize(path).toString()));
        }
    }

    private static void delete(Path folder) throws IOException {
        List<Path> all = allBelow(folder);
        for (int i = all.size() - 1; i >= 0; i--) {
            Files.delete(all.get(i));
        }
    }

    private static List<Path> allBelow(Path folder) throws IOException {
        try (Stream<Path> paths = Files.walk(folder)) {
            return paths.collect(Collectors.toList());
        }
    }
}
