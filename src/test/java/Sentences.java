import java.io.IOException;
import java.io.UncheckedIOException;
import java.nio.file.Files;
import java.nio.file.Path;
import java.util.ArrayList;
import java.util.HashSet;
import java.util.LinkedHashMap;
import java.util.List;
import java.util.Map;
import java.util.Set;

/** The sentences of ../shared/DOC.md, those of the Terms as promise 0, and which of them a test has quoted. */
final class Sentences {
    /** The terms and the first section stand ahead of all promises. */
    static final int TERMS = 0;
    private static final Map<Integer, List<String>> ALL = read();
    private static final Set<String> QUOTED = new HashSet<>();

    private Sentences() {
    }

    private static Map<Integer, List<String>> read() {
        String text;
        try {
            text = Files.readString(Path.of("../shared/DOC.md"));
        } catch (IOException e) {
            throw new UncheckedIOException(e);
        }
        Map<Integer, List<String>> all = new LinkedHashMap<>();
        all.put(TERMS, termsOf(text));
        for (String section : text.split("\n## ")) {
            if (section.startsWith("Promise ")) {
                int number = Integer.parseInt(section.substring(8, section.indexOf(':')));
                all.put(number, new ArrayList<>());
                for (String row : section.substring(section.indexOf('\n')).split("\n")) {
                    if (!row.isBlank()) {
                        all.get(number).add(row);
                    }
                }
            }
        }
        return all;
    }

    private static List<String> termsOf(String text) {
        String limit = text.substring(text.indexOf("An object is used"), text.indexOf("## The public face"));
        String terms = text.substring(text.indexOf("## Terms") + 8, text.indexOf("## Promise 1:"));
        List<String> sentences = new ArrayList<>();
        for (String paragraph : (limit + "\n\n" + terms).split("\n\n")) {
            String whole = paragraph.replaceAll("</?p>", "").replaceAll("\\s+", " ").strip();
            if (!whole.startsWith("Ahead of the calls")) {
                for (String sentence : whole.split("(?<=[.;]) ")) {
                    // What stands in front of a paragraph, as "Names.", says nothing by itself.
                    if (sentence.split(" ").length > 1 && !sentence.endsWith(" is free.")) {
                        sentences.add(sentence);
                    }
                }
            }
        }
        return sentences;
    }

    /** Notes that a test of this sentence runs; a part of it will do if no other sentence has this part too. */
    static void quote(int promise, String part) {
        Check.promise(promise, part);
        List<String> found = new ArrayList<>(ALL.get(promise));
        found.removeIf(sentence -> !sentence.contains(part));
        if (found.contains(part)) {
            found.removeIf(sentence -> !sentence.equals(part));
        }
        Check.due("sentences of the document that say so", found.size(), 1);
        for (String sentence : found) {
            QUOTED.add(promise + " " + sentence);
        }
    }

    static void checkAllQuoted() {
        Check.promise(TERMS, "each sentence has a test");
        for (int promise : ALL.keySet()) {
            for (String sentence : ALL.get(promise)) {
                Check.isTrue("promise " + promise + " has a test of: " + sentence,
                        QUOTED.contains(promise + " " + sentence));
            }
        }
    }
}
