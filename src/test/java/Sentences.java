import java.io.IOException;
import java.nio.file.Files;
import java.nio.file.Path;
import java.util.ArrayList;
import java.util.LinkedHashMap;
import java.util.List;
import java.util.Map;
import java.util.Set;
import java.util.TreeSet;

/**
 * Tests of single sentences of ../shared/DOC.md. Each test is told with the words that it tests; they must stand in
 * the document, and in the end no sentence may be without a test but those that LEFT_OUT tells.
 */
final class Sentences {
    private static final Path DOCUMENT = Path.of("../shared/DOC.md");

    /** Sentences that name nothing that a call could show, and the labels of the paragraphs. */
    private static final Set<String> LEFT_OUT = Set.of("Gears.", "Index deviations.", "Lines.", "Deviations of a gear.",
            "Tolerances.", "Mesh.", "Reading text.", "Undo.", "Exceptions.", "The constants:",
            "All deviations, readings and tolerances are whole numbers (tenths of a micrometer).",
            "The constructor and the methods follow, a promise each: the signature, then what it does.");

    private static final Map<String, List<String>> SECTIONS = read();
    private static final Set<String> TESTED = new TreeSet<>();
    private static String section = "";

    private Sentences() {
    }

    private static Map<String, List<String>> read() {
        Map<String, List<String>> sections = new LinkedHashMap<>();
        if (!Files.exists(DOCUMENT)) {
            return sections;
        }
        try {
            for (String part : Files.readString(DOCUMENT).replaceAll("(?s)```.*?```", "").split("\n(?=## )")) {
                String title = part.split("\n", 2)[0].replaceFirst("^#+ ", "");
                sections.put(title, sentencesOf(part.substring(part.indexOf('\n') + 1)));
            }
        } catch (IOException e) {
            throw new IllegalStateException(e);
        }
        sections.remove("GearGauge");
        sections.remove("Not promised");
        sections.get("What it is").remove(0);
        return sections;
    }

    private static List<String> sentencesOf(String text) {
        List<String> all = new ArrayList<>();
        for (String paragraph : text.split("\n\n+|\n(?=- )")) {
            String line = paragraph.replaceAll("\\s+", " ").trim();
            // The examples have a test of their own; a signature and a headline are no sentences.
            if (line.isEmpty() || line.startsWith("Examples:") || line.startsWith("`") || line.startsWith("----")) {
                continue;
            }
            for (String sentence : line.split("(?<=\\.|\\.\\)) (?=[A-Z(])")) {
                all.add(sentence);
            }
        }
        return all;
    }

    static void section(String title) {
        section = title;
        if (!SECTIONS.isEmpty()) {
            Due.is("the document has the section " + title, SECTIONS.containsKey(title), true);
        }
    }

    /** The words are a sentence of the section, or its beginning with " .." behind it. */
    static void test(String words, Runnable checks) {
        Due.place = section + " | " + words + " | ";
        mark(words);
        int before = Due.checks();
        try {
            checks.run();
        } catch (RuntimeException e) {
            Due.is("the test ends with " + e, false, true);
        }
        Due.is("the test has checks", Due.checks() > before, true);
        Due.place = "";
    }

    /** One of the cases that a longer sentence names. */
    static void test(String words, String oneCase, Runnable checks) {
        test(words, () -> {
            Due.place = section + " | " + words + " | " + oneCase + " | ";
            checks.run();
        });
    }

    private static void mark(String words) {
        if (SECTIONS.isEmpty()) {
            return;
        }
        int found = 0;
        for (String sentence : SECTIONS.getOrDefault(section, List.of())) {
            boolean same = words.endsWith(" ..")
                    ? sentence.startsWith(words.substring(0, words.length() - 2)) : sentence.equals(words);
            if (same) {
                TESTED.add(section + " | " + sentence);
                found++;
            }
        }
        Due.is("sentences of the document with these words", found, 1);
    }

    static void verdict() {
        if (SECTIONS.isEmpty()) {
            System.out.println(DOCUMENT + " is not there, so its words are not compared");
        }
        for (Map.Entry<String, List<String>> e : SECTIONS.entrySet()) {
            for (String sentence : e.getValue()) {
                if (!LEFT_OUT.contains(sentence)) {
                    String name = e.getKey() + " | " + sentence;
                    Due.is(name + " has a test", TESTED.contains(name), true);
                }
            }
        }
    }
}
