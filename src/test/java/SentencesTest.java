import java.io.IOException;
import java.nio.file.Files;
import java.nio.file.Path;
import java.util.ArrayList;
import java.util.LinkedHashMap;
import java.util.List;
import java.util.Map;
import java.util.regex.Matcher;
import java.util.regex.Pattern;
import java.util.stream.Stream;

/** Every sentence of the document has a test among the Boundaries that bears its words, or stands here as one that names no boundary case. */
public final class SentencesTest {
    private static final Checks CHECKS = new Checks();
    private static final Path TESTS = Path.of("src/test/java");
    private static final String STRING = "\"((?:[^\"\\\\]|\\\\.)*)\"";
    private static final Pattern CONSTANT = Pattern.compile("String ([A-Z_]+) = " + STRING);
    private static final Pattern SAYS = Pattern.compile("\\bsays\\((?:" + STRING + "|([A-Z_]+)), (?:" + STRING + "|([A-Z_]+))\\)");

    /** What these sentences say has no edge of its own; the tests of the promises hold the program to it. */
    private static final String[] NAME_NO_BOUNDARY = {
        "A log that a village keeps by councils: ",
        "what later calls answer is free.",
        "All numbers are whole.",
        "Ahead of the calls `come`, ", "Ahead of the calls `propose`, ", "Ahead of the calls `append`, ", "Ahead of the calls `count`, ",
        "`int attend(", "`int setLot(", "`int propose(", "`int second(", "`int learn(", "`int run()`: ", "`int count(", "`int elder(", "`int villager(",
        "`int entry(", "`int draw(",
        "- `villager`: a villager", "- `elder`: a villager", "- `elder`: an elder of the council", "- `entry`: an entry", "- `seat`: a seat",
        "Returns the number;", "Returns the villager;", "Returns the property;", "Returns it;", "Returns the state;",
        "How the state is held ", "Use of one object from several threads ", "Nothing is promised beyond ",
    };

    public static void main(String[] args) throws IOException {
        Map<String, List<String>> said = said();
        for (String heading : Document.headings()) {
            for (String sentence : Document.sentences(heading)) {
                boolean has = hasTest(sentence, said.getOrDefault(heading, List.of()));
                CHECKS.holds(heading + ": \"" + sentence + "\": that it has a test or names no boundary case", has || namesNone(sentence));
            }
        }
        CHECKS.holds("that the document is there", Document.headings().contains("Promise 24: lotFor"));
        CHECKS.end("SentencesTest");
    }

    private static boolean hasTest(String sentence, List<String> words) {
        for (String part : words) {
            if (sentence.contains(part)) {
                return true;
            }
        }
        return false;
    }

    private static boolean namesNone(String sentence) {
        for (String start : NAME_NO_BOUNDARY) {
            if (sentence.startsWith(start)) {
                return true;
            }
        }
        return false;
    }

    /** The words that the tests of boundary cases bear, by the headings. */
    private static Map<String, List<String>> said() throws IOException {
        Map<String, List<String>> said = new LinkedHashMap<>();
        try (Stream<Path> files = Files.list(TESTS)) {
            for (Path file : files.filter(each -> each.getFileName().toString().startsWith("BoundariesOf")).sorted().toList()) {
                read(Files.readString(file), said);
            }
        }
        return said;
    }

    private static void read(String source, Map<String, List<String>> said) {
        Map<String, String> constants = new LinkedHashMap<>();
        Matcher constant = CONSTANT.matcher(source);
        while (constant.find()) {
            constants.put(constant.group(1), constant.group(2));
        }
        Matcher says = SAYS.matcher(source);
        while (says.find()) {
            String heading = says.group(1) != null ? says.group(1) : constants.get(says.group(2));
            String words = says.group(3) != null ? says.group(3) : constants.get(says.group(4));
            CHECKS.holds(says.group() + ": that its words are known", heading != null && words != null);
            if (heading != null && words != null) {
                said.computeIfAbsent(heading, none -> new ArrayList<>()).add(words.replace("\\\"", "\""));
            }
        }
    }
}
