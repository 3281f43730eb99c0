import java.io.IOException;
import java.nio.file.Files;
import java.nio.file.Path;
import java.util.ArrayList;
import java.util.Comparator;
import java.util.List;
import java.util.Map;
import java.util.TreeMap;
import java.util.function.Consumer;

/** The document's sentences, each with a test of its own under the sentence's very words. */
final class Sentences {
    private final Map<String, String> sections = new TreeMap<>();
    private final Map<String, List<String>> tested = new TreeMap<>();
    private final Checks document = new Checks("document");
    private int kept = 0;
    private int broken = 0;

    Sentences() throws IOException {
        Path file = Path.of(System.getProperty("project.root", "."), "../shared/DOC.md");
        if (Files.exists(file)) {
            readSections(Files.readString(file));
        } else {
            System.out.println("no " + file + " here: the sentences' words are not held against it");
        }
    }

    private void readSections(String text) {
        for (String part : text.split("(?m)^## ")) {
            String[] lines = part.split("\n", 2);
            if (lines.length == 2) {
                sections.put(lines[0].trim(), plain(lines[1]));
            }
        }
    }

    /** Without the marks around code and the lines' ends, which are no part of a sentence. */
    private static String plain(String text) {
        return text.replaceAll("```\\w*", " ").replaceAll("\\s+", " ");
    }

    /** Runs the test of the words that stand under the heading; what it prints names both. */
    void test(String heading, String words, Consumer<Checks> test) {
        Checks checks = new Checks(heading + " \"" + words + "\"");
        tested.computeIfAbsent(heading, any -> new ArrayList<>()).add(words);
        if (!sections.isEmpty()) {
            document.due(heading + " says: " + words, sections.getOrDefault(heading, "").contains(words));
        }
        try {
            test.accept(checks);
        } catch (RuntimeException problem) {
            checks.due("threw " + problem, false);
        }
        if (checks.hold()) {
            kept++;
        } else {
            broken++;
            System.out.println("BROKEN: " + heading + " \"" + words + "\"");
        }
    }

    /** What is left of a section when the tested words are struck out must be no word; the last promises nothing. */
    private void findUntested() {
        sections.forEach((heading, text) -> {
            if (!heading.equals("Not promised")) {
                String rest = text.replaceAll("`[^`]*`", "");
                List<String> longestFirst = new ArrayList<>(tested.getOrDefault(heading, List.of()));
                longestFirst.sort(Comparator.comparingInt(String::length).reversed());
                for (String words : longestFirst) {
                    rest = rest.replace(words, "");
                }
                document.due(heading + ", words without a test", rest.replaceAll("[^\\w*]+", " ").trim(), "");
            }
        });
    }

    void close() {
        findUntested();
        System.out.println("sentences: " + kept + " hold, " + broken + " are broken");
        if (!sections.isEmpty()) {
            document.close();
        }
        if (broken != 0 || kept == 0) {
            System.exit(1);
        }
    }
}
