import java.io.IOException;
import java.nio.file.Files;
import java.nio.file.Path;
import java.util.ArrayList;
import java.util.LinkedHashMap;
import java.util.List;
import java.util.Map;

/**
 * ../shared/DOC.md, so that each test names the sentences that it is about and a sentence that no
 * test names is found. A sentence ends with a point or a semicolon.
 */
final class Document {
    private static final Path PLACE = Path.of("..", "shared", "DOC.md");

    private final Check check;
    private final String[] wholeHeads;
    private final Map<String, String> sections;
    private final Map<String, List<String>> quotes = new LinkedHashMap<>();

    /** The heads are those whose every sentence must be quoted. */
    Document(Check check, String... heads) {
        this.check = check;
        wholeHeads = heads;
        sections = readSections();
    }

    private static Map<String, String> readSections() {
        Map<String, String> all = new LinkedHashMap<>();
        String head = "";
        for (String line : readLines()) {
            // One head has no sign before it.
            if (line.startsWith("#") || line.equals("Threads, registers, memories")) {
                head = line.replaceFirst("^#+ ", "");
                line = "";
            }
            all.merge(head, line, (before, more) -> before + "\n" + more);
        }
        return all;
    }

    private static List<String> readLines() {
        try {
            return Files.readAllLines(PLACE);
        } catch (IOException e) {
            throw new IllegalStateException("no document at " + PLACE, e);
        }
    }

    /** The calling test would fail if one of these sentences under this head were broken. */
    void says(String head, String... sentences) {
        String section = sections.getOrDefault(head, "");
        for (String sentence : sentences) {
            check.due("the document says under '" + head + "': " + sentence,
                    section.contains(sentence) ? 1 : 0, 1);
            quotes.computeIfAbsent(head, unused -> new ArrayList<>()).add(sentence);
        }
    }

    void finish() {
        for (String head : wholeHeads) {
            for (String sentence : sentencesOf(sections.getOrDefault(head, ""))) {
                check.due("a test is about, under '" + head + "': " + sentence,
                        isQuoted(head, sentence) ? 1 : 0, 1);
            }
        }
    }

    private boolean isQuoted(String head, String sentence) {
        for (String quote : quotes.getOrDefault(head, new ArrayList<>())) {
            if (quote.contains(sentence)) {
                return true;
            }
        }
        return false;
    }

    private static List<String> sentencesOf(String section) {
        List<String> all = new ArrayList<>();
        // The grammar is quoted as its sentences are; its block has no sentences.
        String prose = section.replaceAll("(?s)```.*?```", "");
        for (String line : prose.split("\n")) {
            String unsigned = line.replaceFirst("^`[^`]*\\)`: ", "");
            for (String sentence : unsigned.split("(?<=[.;])\\s+")) {
                String bare = sentence.replaceFirst("[.;:]$", "").trim();
                if (!bare.isEmpty()) {
                    all.add(bare);
                }
            }
        }
        return all;
    }
}
