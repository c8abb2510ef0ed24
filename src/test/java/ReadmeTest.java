import java.lang.reflect.Method;
import java.lang.reflect.Modifier;
import java.nio.file.Files;
import java.nio.file.Path;
import java.util.List;
import java.util.regex.Matcher;
import java.util.regex.Pattern;

/** What README.md shows: its examples, run on one object from the first line on, answer as told behind them. */
public final class ReadmeTest {
    private static final Due D = new Due();
    private static final Pattern CALL =
        Pattern.compile("x\\.(\\w+)\\(([-0-9, ]*)\\); +// (-?\\d+|BAD|NO|FULL|NONE)\\b.*");
    private static final Pattern WRITTEN =
        Pattern.compile("for \\(char c : \"([^\"]*)\"\\.toCharArray\\(\\)\\) x\\.write\\(c\\);");
    private static final Pattern MADE = Pattern.compile("GirthReports x = new GirthReports\\(\\);.*");

    public static void main(String[] args) throws Exception {
        // .ci/run starts every test from the project's own directory
        List<String> lines = Files.readAllLines(Path.of("README.md"));
        examples(lines);
        everyCallIsNamed(String.join("\n", lines));
        D.end();
    }

    private static void examples(List<String> lines) throws Exception {
        GirthReports x = new GirthReports();
        boolean inside = false;
        for (String line : lines) {
            if (line.startsWith("```")) {
                inside = line.equals("```java");
            } else if (inside) {
                example(x, line);
            }
        }
    }

    private static void example(GirthReports x, String line) throws Exception {
        Matcher call = CALL.matcher(line);
        Matcher written = WRITTEN.matcher(line);
        if (call.matches()) {
            D.due(line, answerOf(call.group(3)), ask(x, call.group(1), call.group(2)));
        } else if (written.matches()) {
            Due.write(x, written.group(1));
        } else {
            D.holds("an example that this test can read: " + line, MADE.matcher(line).matches());
        }
    }

    private static int ask(GirthReports x, String name, String told) throws Exception {
        String[] parts = told.isBlank() ? new String[0] : told.split(",");
        Object[] numbers = new Object[parts.length];
        Class<?>[] types = new Class<?>[parts.length];
        for (int i = 0; i < parts.length; i++) {
            numbers[i] = Integer.valueOf(parts[i].trim());
            types[i] = int.class;
        }
        return (Integer) GirthReports.class.getMethod(name, types).invoke(x, numbers);
    }

    private static int answerOf(String told) throws Exception {
        boolean named = Character.isLetter(told.charAt(0));
        return named ? GirthReports.class.getField(told).getInt(null) : Integer.parseInt(told);
    }

    private static void everyCallIsNamed(String page) {
        for (Method m : GirthReports.class.getDeclaredMethods()) {
            if (Modifier.isPublic(m.getModifiers())) {
                D.holds("README.md names `" + m.getName() + "`", page.contains("`" + m.getName() + "`"));
            }
        }
    }
}
