import java.io.IOException;
import java.io.UncheckedIOException;
import java.nio.file.Files;
import java.nio.file.Path;
import java.util.ArrayList;
import java.util.LinkedHashMap;
import java.util.List;
import java.util.Map;

/** The sections of ../shared/DOC.md by their headings, without the code between them. */
final class Document {
    private static final Path PLACE = Path.of("../shared/DOC.md");
    private static final Map<String, List<String>> SECTIONS = read();

    private Document() {
    }

    static List<String> headings() {
        return new ArrayList<>(SECTIONS.keySet());
    }

    /** The lines under a heading up to the next one; none if there is no such heading. */
    static List<String> lines(String heading) {
        return SECTIONS.getOrDefault(heading, List.of());
    }

    /** The sentences under a heading, and the parts of a sentence that a semicolon parts. */
    static List<String> sentences(String heading) {
        List<String> sentences = new ArrayList<>();
        for (String line : lines(heading)) {
            for (String sentence : line.split("(?<=[.;]) ")) {
                sentences.add(sentence);
            }
        }
        return sentences;
    }

    static boolean says(String heading, String words) {
        for (String sentence : sentences(heading)) {
            if (sentence.contains(words)) {
                return true;
            }
        }
        return false;
    }

    private static Map<String, List<String>> read() {
        Map<String, List<String>> sections = new LinkedHashMap<>();
        List<String> section = new ArrayList<>();
        boolean isCode = false;
        for (String line : allLines()) {
            if (line.startsWith("```")) {
                isCode = !isCode;
            } else if (!isCode && line.startsWith("#")) {
                section = new ArrayList<>();
                sections.put(line.replaceFirst("^#+ *", "").trim(), section);
            } else if (!isCode && !line.isBlank()) {
                section.add(line.trim());
            }
        }
        return sections;
    }

    private static List<String> allLines() {
        try {
            return Files.readAllLines(PLACE);
        } catch (IOException missing) {
            throw new UncheckedIOException(missing);
        }
    }
}
