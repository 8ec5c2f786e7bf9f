import java.io.IOException;
import java.lang.reflect.InvocationTargetException;
import java.nio.file.Files;
import java.nio.file.Path;
import java.util.Arrays;
import java.util.List;
import java.util.regex.Matcher;
import java.util.regex.Pattern;

/** The example in README.md: each call answers what stands behind it. */
public final class ReadmeTest {
    private static final Path README = Path.of("README.md");
    private static final Pattern CALL = Pattern.compile("^(x\\..*\\));\\s+// (\"[^\"]*\"|throws \\w+|-?\\w+)(:.*)?$");
    private static final String MADE = "Tapebuffer x = new Tapebuffer();";

    public static void main(String[] args) throws Exception {
        List<String> lines = exampleLines();
        Check.due("the example's first line", lines.isEmpty() ? "" : lines.get(0), MADE);
        int calls = 0;
        Tapebuffer x = new Tapebuffer();
        for (String line : lines.subList(Math.min(1, lines.size()), lines.size())) {
            Matcher call = CALL.matcher(line);
            Check.due("a call with its answer: " + line, call.matches(), true);
            if (call.matches()) {
                calls++;
                Check.due(call.group(1), answer(x, call.group(1)), call.group(2));
            }
        }
        Check.due("calls were found", calls > 10, true);
        Check.end();
    }

    private static List<String> exampleLines() throws IOException {
        String readme = Files.readString(README);
        Check.due("README.md has one example", readme.split("```java\n", -1).length, 2);
        String example = readme.substring(readme.indexOf("```java\n") + 8);
        return example.substring(0, example.indexOf("```")).lines().filter(line -> !line.isBlank()).toList();
    }

    /** A call as it is written, of numbers alone. */
    private static String answer(Tapebuffer x, String call) throws ReflectiveOperationException {
        String name = call.substring(2, call.indexOf('('));
        String given = call.substring(call.indexOf('(') + 1, call.length() - 1);
        Object[] numbers = Arrays.stream(given.split(", ")).filter(number -> !number.isEmpty())
            .map(Integer::valueOf).toArray();
        Class<?>[] kinds = new Class<?>[numbers.length];
        Arrays.fill(kinds, int.class);
        try {
            Object answer = Tapebuffer.class.getMethod(name, kinds).invoke(x, numbers);
            return answer instanceof String ? "\"" + answer + "\"" : answer.toString();
        } catch (InvocationTargetException thrown) {
            return "throws " + thrown.getCause().getClass().getSimpleName();
        }
    }
}
