import java.io.IOException;
import java.lang.reflect.Method;
import java.lang.reflect.Modifier;
import java.nio.charset.StandardCharsets;
import java.nio.file.Files;
import java.nio.file.Path;
import java.util.Map;
import java.util.Set;
import java.util.TreeSet;
import java.util.regex.Matcher;
import java.util.regex.Pattern;

/** The examples of README.md answer what the comments behind them say, and show each call. Runs where README.md is. */
public final class ReadmeTest {
    private static final Pattern CALL = Pattern.compile("x\\.(\\w+)\\(([-\\d, ]*)\\); +// (-?\\w+)(:.*)?");
    private static final Map<String, String> WORDS = Map.of("true", "yes", "false", "no",
            "IndexOutOfBoundsException", "INDEX", "IllegalArgumentException", "ARGUMENT", "IllegalStateException", "STATE");

    public static void main(String[] args) throws IOException {
        Check check = new Check("ReadmeTest");
        Set<String> shown = new TreeSet<>();
        OptionLine x = null;
        boolean inExample = false;
        for (String line : Files.readAllLines(Path.of("README.md"), StandardCharsets.UTF_8)) {
            if (line.startsWith("```")) {
                inExample = line.equals("```java");
            } else if (line.equals("OptionLine x = new OptionLine();")) {
                x = new OptionLine();
            } else if (inExample && !line.isEmpty()) {
                shown.add(callOf(check, x, line));
            }
        }
        for (Method method : OptionLine.class.getDeclaredMethods()) {
            if (Modifier.isPublic(method.getModifiers())) {
                check.holds(method.getName() + " is shown in an example", shown.contains(method.getName()));
            }
        }
        check.end();
    }

    private static String callOf(Check check, OptionLine x, String line) {
        Matcher call = CALL.matcher(line);
        boolean reads = x != null && call.matches();
        check.holds("it reads as a call on x: " + line, reads);
        if (!reads) {
            return "";
        }
        String due = WORDS.getOrDefault(call.group(3), call.group(3));
        Script.goOn(check, x, line, call.group(1) + " " + call.group(2).replace(',', ' ') + " = " + due);
        return call.group(1);
    }
}
