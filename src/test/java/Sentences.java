import java.io.IOException;
import java.nio.file.Files;
import java.nio.file.Path;
import java.util.HashSet;
import java.util.LinkedHashMap;
import java.util.Map;
import java.util.Set;

/** Ties each test to the sentence of the document that it is for, and finds sentences without a test. */
final class Sentences {
    private static final Path DOCUMENT = Path.of("..", "shared", "DOC.md");
    private static final Set<String> DESCRIPTION = Set.of("Items", "Forms", "Layout", "Displacements", "Relaxing",
        "Shrinking", "Text", "History", "Exceptions");
    private static final Set<String> tested = new HashSet<>();

    private Sentences() {
    }

    /** Runs the test of a sentence, which stands in a paragraph of the description or in a promise. */
    static void holds(String section, String words, Runnable test) {
        int checkedBefore = Expect.checked();
        int wrongBefore = Expect.wrong();
        tested.add(section + ": " + words);
        try {
            test.run();
        } catch (RuntimeException e) {
            Expect.due("a call that is not refused", "an answer", e.toString());
        }
        Expect.due("answers looked at", true, Expect.checked() > checkedBefore);
        if (Expect.wrong() > wrongBefore) {
            System.out.println("    so this does not hold: " + section + ": " + words);
        }
    }

    /** The sentences are the document's own, and none of those that name a boundary is left out. */
    static void compareWithDocument() {
        if (!Files.isReadable(DOCUMENT)) {
            System.out.println("the document is not here, so the sentences were not compared with it");
            return;
        }
        Set<String> written = new HashSet<>();
        Map<String, String> sections = sections();
        for (Map.Entry<String, String> section : sections.entrySet()) {
            boolean isRule = DESCRIPTION.contains(section.getKey());
            for (String sentence : split(section.getValue())) {
                String full = section.getKey() + ": " + sentence;
                written.add(full);
                if (isRule || namesABoundary(sentence)) {
                    Expect.due("a test for \"" + full + "\"", true, tested.contains(full));
                }
            }
        }
        for (String full : tested) {
            Expect.due("in the document: \"" + full + "\"", true, written.contains(full));
        }
        Expect.due("sections", 1 + DESCRIPTION.size() + 41, sections.size());
    }

    private static boolean namesABoundary(String sentence) {
        return sentence.startsWith("Throws ") || sentence.matches(".*[0-9].*");
    }

    /** The paragraphs of the description by their names, the promises by their numbers, and what it is. */
    private static Map<String, String> sections() {
        Map<String, String> sections = new LinkedHashMap<>();
        String[] chapters = text().split("\n## ");
        for (String chapter : chapters) {
            if (chapter.startsWith("Description")) {
                for (String paragraph : chapter.split("\n\n")) {
                    int point = paragraph.indexOf(". ");
                    if (point > 0 && DESCRIPTION.contains(paragraph.substring(0, point))) {
                        sections.put(paragraph.substring(0, point), paragraph.substring(point + 2));
                    }
                }
            } else if (chapter.startsWith("What it is")) {
                sections.put("What it is", chapter.substring(chapter.indexOf('\n')));
            } else if (chapter.startsWith("Promise ")) {
                sections.put(chapter.substring("Promise ".length(), chapter.indexOf(':')),
                    chapter.substring(chapter.indexOf('\n')));
            }
        }
        return sections;
    }

    private static Set<String> split(String section) {
        Set<String> sentences = new HashSet<>();
        for (String paragraph : section.split("\n\n|\n(?=- )")) {
            String line = paragraph.trim().replaceAll("\\s+", " ");
            if (!line.isEmpty() && !line.startsWith("`") && !line.startsWith("----")) {
                for (String sentence : line.split("(?<=\\.) ")) {
                    sentences.add(sentence);
                }
            }
        }
        return sentences;
    }

    private static String text() {
        try {
            return Files.readString(DOCUMENT);
        } catch (IOException e) {
            throw new IllegalStateException("the document can't be read: " + e);
        }
    }
}
