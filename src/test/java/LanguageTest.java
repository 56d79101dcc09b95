import java.io.IOException;
import java.nio.file.Files;
import java.nio.file.Path;
import java.util.regex.Matcher;
import java.util.regex.Pattern;

/** Rules of LANGUAGE.md, as far as they can be read from the source without a compiler. */
public final class LanguageTest {
    private static final Checks CHECKS = new Checks();
    private static final String[] FORBIDDEN = {
        "\\bthrow\\b", "\\bthrows\\b", "\\btry\\b", "\\bcatch\\b", "\\bfinally\\b", "\\bsynchronized\\b", "\\bassert\\b",
        "\\bpackage\\b", "\\bimport\\b", "\\bvar\\b", "->", "::", "@", "\\bclass [^{]*\\bextends\\b", "Exact\\b", "\\bnew \\w+\\([^)]*\\) *\\{",
        "\\bprotected\\b", "\\bvolatile\\b", "\\bnative\\b", "\"",
    };

    public static void main(String[] args) throws IOException {
        String source = Files.readString(Path.of("src/main/java/VillageLog.java"));
        String code = source.replaceAll("(?s)/\\*.*?\\*/", "").replaceAll("//[^\n]*", "");
        for (String pattern : FORBIDDEN) {
            Matcher matcher = Pattern.compile(pattern).matcher(code);
            CHECKS.holds("no " + pattern, !matcher.find());
        }
        for (int place = 0; place < source.length(); place++) {
            if (source.charAt(place) > 127) {
                CHECKS.holds("a sign from 1 to 127 at " + place, false);
            }
        }
        library(code);
        statics(code);
        classes(code);
        methods(code);
        CHECKS.end("LanguageTest");
    }

    private static void library(String code) {
        Matcher calls = Pattern.compile("\\b([A-Z][a-z]\\w*)\\.(\\w+)").matcher(code);
        while (calls.find()) {
            String call = calls.group(1) + "." + calls.group(2);
            boolean own = code.contains("class " + calls.group(1) + " ");
            CHECKS.holds(call + " is allowed", own || call.equals("System.arraycopy") || call.equals("Math.min") || call.equals("Math.max"));
        }
    }

    private static void statics(String code) {
        Matcher fields = Pattern.compile("\\bstatic\\b([^;=({]*)[;=]").matcher(code);
        while (fields.find()) {
            CHECKS.holds("static" + fields.group(1) + " is a final number", fields.group(1).matches(" final int \\w+ "));
        }
        CHECKS.holds("no static block", !Pattern.compile("\\bstatic\\s*\\{").matcher(code).find());
    }

    private static void classes(String code) {
        String[] parts = code.split("\\bclass ");
        CHECKS.holds("at most twelve classes", parts.length - 1 <= 12);
        for (int part = 1; part < parts.length; part++) {
            int fields = 0;
            for (String line : parts[part].split("\n")) {
                boolean isField = line.matches(" {4}(?: {4})?private (final )?[\\w\\[\\]]+ \\w+( = [^;]*)?;");
                fields += isField ? 1 : 0;
            }
            CHECKS.holds("at most twenty fields in the class " + part, fields <= 20);
        }
    }

    private static void methods(String code) {
        int start = 0;
        String[] lines = code.split("\n");
        for (int line = 0; line < lines.length; line++) {
            if (lines[line].matches(" {4}(?: {4})?\\S[^=]*\\) \\{")) {
                start = line;
                CHECKS.holds("at most seven parameters: " + lines[line], lines[line].split(",").length <= 7);
            }
            if (lines[line].matches(" {4}(?: {4})?\\}")) {
                CHECKS.holds("a short method: " + lines[start], line - start <= 60 || lines[line].startsWith("    }"));
            }
        }
    }
}
