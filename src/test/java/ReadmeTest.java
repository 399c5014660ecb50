import java.io.IOException;
import java.lang.reflect.Method;
import java.nio.file.Files;
import java.nio.file.Path;
import java.util.ArrayList;
import java.util.Arrays;
import java.util.HashMap;
import java.util.List;
import java.util.Map;
import java.util.regex.Matcher;
import java.util.regex.Pattern;

/** Makes the calls of README.md's example, and looks whether they answer what it tells. */
public final class ReadmeTest {
    private static final String BEGIN = "```java", END = "```";
    private static final String MADE = "ArrayRules rules = new ArrayRules();";
    private static final Pattern CALL = Pattern.compile(
            "(?:(int|long) (\\w+) = )?rules\\.(\\w+)\\(([^()]*)\\);\\s+// (-?\\d+)(?:: .+)?");

    private final ArrayRules rules = new ArrayRules();
    private final Map<String, Integer> names = new HashMap<>();
    private int calls;

    public static void main(String[] args) throws Exception {
        List<String> lines = exampleOf(Files.readAllLines(Path.of("README.md")));
        Check.due("README.md: it begins with a new object", lines.indexOf(MADE), 0);
        ReadmeTest example = new ReadmeTest();
        for (String line : lines.subList(Math.min(1, lines.size()), lines.size())) {
            example.make(line);
        }
        Check.due("README.md: each line is a call", example.calls, lines.size() - 1);
        Check.end();
    }

    private static List<String> exampleOf(List<String> readme) throws IOException {
        int begin = readme.indexOf(BEGIN);
        if (begin < 0) {
            throw new IOException("README.md shows no example");
        }
        List<String> lines = new ArrayList<>();
        for (int i = begin + 1; i < readme.size() && !readme.get(i).equals(END); i++) {
            if (!readme.get(i).isBlank()) {
                lines.add(readme.get(i));
            }
        }
        return lines;
    }

    private void make(String line) throws Exception {
        Matcher call = CALL.matcher(line);
        if (!call.matches()) {
            Check.due("README.md: no call with its answer: " + line, 0, 1);
            return;
        }
        int[] given = argumentsOf(call.group(4));
        Class<?>[] kinds = new Class<?>[given.length];
        Arrays.fill(kinds, int.class);
        Method method = ArrayRules.class.getMethod(call.group(3), kinds);
        Object[] boxed = Arrays.stream(given).boxed().toArray();
        long answer = ((Number) method.invoke(rules, boxed)).longValue();
        Check.due("README.md: " + line, answer, Long.parseLong(call.group(5)));
        if (call.group(2) != null) {
            Check.due("README.md: declared as it is: " + line,
                    call.group(1).equals(method.getReturnType().getName()) ? 1 : 0, 1);
            names.put(call.group(2), (int) answer);
        }
        calls++;
    }

    private int[] argumentsOf(String told) {
        if (told.isEmpty()) {
            return new int[0];
        }
        return Arrays.stream(told.split(", ")).mapToInt(this::argumentOf).toArray();
    }

    private int argumentOf(String told) {
        return names.containsKey(told) ? names.get(told) : Integer.parseInt(told);
    }
}
