import java.io.IOException;
import java.nio.file.Files;
import java.nio.file.Path;
import java.util.LinkedHashMap;
import java.util.List;
import java.util.Map;
import java.util.function.Consumer;

/**
 * Runs the tests of single sentences. Each names the part of the document (a promise's number, or a paragraph of
 * "Description") and quotes the sentence; a quote that is not there fails, and so does a sentence without a test.
 */
final class Sentences {
    private static final Path DOCUMENT = Path.of("../shared/DOC.md");
    private static final List<String> PARAGRAPHS = List.of("Records", "Template", "Letters", "Failures", "Duplicates",
            "Runs", "Text", "Changes", "Exceptions");
    private static final String NEW_OBJECT = "A new object";
    private static final int PROMISES = 35;
    /** Lines that say who a parameter is, and nothing of what it may be. */
    private static final List<String> NO_BOUNDARY = List.of("- `group`: the group", "- `count`: the count",
            "- `record`: the record", "- `field`: the field", "- `number`: the number", "- `limit`: the limit",
            "- `item`: the number of the item", "- `packed`: the characters");

    private final Map<String, String> parts = new LinkedHashMap<>();
    private final Map<String, StringBuilder> untold = new LinkedHashMap<>();
    private int passed = 0;
    private int failed = 0;

    Sentences() throws IOException {
        String part = "";
        for (String line : Files.readAllLines(DOCUMENT)) {
            part = partOf(line, part);
            boolean isSignature = line.startsWith("`");
            boolean isHeading = line.startsWith("#") || line.startsWith("----");
            if (!part.isEmpty() && !isSignature && !isHeading && !NO_BOUNDARY.contains(line) && !line.isBlank()) {
                String text = line.startsWith(part + ". ") ? line.substring(part.length() + 2) : line;
                parts.merge(part, text.strip(), (before, more) -> before + " " + more);
            }
        }
        parts.forEach((title, text) -> untold.put(title, new StringBuilder(text)));
    }

    /** The part that a line belongs to, where the line before it belongs to another one; "" if it promises nothing. */
    private static String partOf(String line, String before) {
        if (line.startsWith("## Promise")) {
            return line.substring("## ".length(), line.indexOf(':'));
        }
        if (line.startsWith("## ") || line.startsWith("The constructor and the methods follow")) {
            return line.equals("## What it is") ? "What it is" : "";
        }
        if (before.startsWith("Promise")) {
            return before;
        }
        for (String each : PARAGRAPHS) {
            if (line.startsWith(each + ". ")) {
                return each;
            }
        }
        return line.startsWith(NEW_OBJECT + " has ") ? NEW_OBJECT : before;
    }

    void test(String part, String sentence, Consumer<Trial> body) {
        Trial trial = new Trial();
        if (!tell(part, sentence)) {
            trial.faults.add("the document does not say that there");
        }
        try {
            body.accept(trial);
        } catch (RuntimeException e) {
            trial.faults.add("the test ends with " + e);
        }
        if (trial.looks == 0) {
            trial.faults.add("the test looks at nothing");
        }
        count(part, sentence, trial.faults);
    }

    /** Quotes what asks for nothing of which a test could be made. */
    void without(String part, String sentence) {
        if (!tell(part, sentence)) {
            count(part, sentence, List.of("the document does not say that there"));
        }
    }

    /** Notes that a sentence has its test; returns whether it is there. */
    private boolean tell(String part, String sentence) {
        int at = parts.containsKey(part) ? parts.get(part).indexOf(sentence) : -1;
        for (int i = at; at >= 0 && i < at + sentence.length(); i++) {
            untold.get(part).setCharAt(i, ' ');
        }
        return at >= 0;
    }

    private void count(String part, String sentence, List<String> faults) {
        if (faults.isEmpty()) {
            passed++;
            return;
        }
        failed++;
        System.out.println(part + ", \"" + sentence + "\":");
        faults.stream().limit(5).forEach(each -> System.out.println("    " + each));
    }

    void end() {
        for (int i = 1; i <= PROMISES; i++) {
            if (!parts.containsKey("Promise " + i)) {
                count("Promise " + i, "", List.of("not found in the document"));
            }
        }
        untold.forEach((part, text) -> {
            boolean isTold = text.toString().replaceAll("[ .,;:]", "").isEmpty();
            String left = text.toString().strip().replaceAll("  +", " .. ");
            count(part, "each sentence has a test", isTold ? List.of() : List.of("none for: " + left));
        });
        System.out.println("SentencesTest: " + passed + " passed, " + failed + " failed");
        if (failed > 0) {
            System.exit(1);
        }
    }
}
