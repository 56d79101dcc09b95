import java.io.IOException;
import java.lang.reflect.Method;
import java.lang.reflect.Modifier;
import java.nio.file.Files;
import java.nio.file.Path;
import java.util.regex.Matcher;
import java.util.regex.Pattern;

/** The example of README.md answers as it says there, and its table has a row for every method. */
public final class ReadmeTest {
    private static final Checks CHECKS = new Checks();
    private static final Pattern EXAMPLE = Pattern.compile("```java\n(.*?)\n```", Pattern.DOTALL);
    private static final Pattern CALL = Pattern.compile("log\\.(\\w+)\\(([^)]*)\\); +// (-?\\d+)(:.*)?");

    public static void main(String[] args) throws IOException, ReflectiveOperationException {
        String readme = Files.readString(Path.of("README.md"));
        Matcher code = EXAMPLE.matcher(readme);
        boolean has = code.find();
        CHECKS.holds("an example in README.md", has);
        if (has) {
            example(code.group(1));
        }
        table(readme);
        CHECKS.end("ReadmeTest");
    }

    private static void example(String code) throws ReflectiveOperationException {
        String[] lines = code.split("\n");
        CHECKS.holds("a new object first", lines[0].equals("VillageLog log = new VillageLog();"));
        VillageLog log = new VillageLog();
        for (int line = 1; line < lines.length; line++) {
            Matcher call = CALL.matcher(lines[line]);
            boolean isCall = call.matches();
            CHECKS.holds("a call with its answer: " + lines[line], isCall);
            if (isCall) {
                CHECKS.due(lines[line], answer(log, call.group(1), call.group(2)), Integer.parseInt(call.group(3)));
            }
        }
    }

    private static int answer(VillageLog log, String name, String list) throws ReflectiveOperationException {
        String[] words = list.isEmpty() ? new String[0] : list.split(", ");
        Object[] numbers = new Object[words.length];
        Class<?>[] types = new Class<?>[words.length];
        for (int word = 0; word < words.length; word++) {
            numbers[word] = words[word].startsWith("'") ? words[word].charAt(1) : Integer.parseInt(words[word]);
            types[word] = int.class;
        }
        return (Integer) VillageLog.class.getMethod(name, types).invoke(log, numbers);
    }

    private static void table(String readme) {
        for (Method method : VillageLog.class.getDeclaredMethods()) {
            if (Modifier.isPublic(method.getModifiers())) {
                String list = ", \\w+".repeat(method.getParameterCount()).replaceFirst("^, ", "");
                boolean has = Pattern.compile("\n\\| `" + method.getName() + "\\(" + list + "\\)` \\|").matcher(readme).find();
                CHECKS.holds("a row for " + method.getName(), has);
            }
        }
    }
}
