import java.lang.reflect.Method;
import java.lang.reflect.Modifier;
import java.nio.file.Files;
import java.nio.file.Path;
import java.util.Arrays;
import java.util.Set;
import java.util.TreeSet;
import java.util.regex.Matcher;
import java.util.regex.Pattern;

/** The examples of README.md: each call answers the number that stands behind it. */
public final class ReadmeTest {
    private static final Pattern CALL =
        Pattern.compile("bench\\.(\\w+)\\(([-\\d, ]*)\\);(?:\\s*// (-?\\d+)\\b.*)?");
    private static final Due due = new Due();
    private static final Set<String> shown = new TreeSet<>();

    public static void main(String[] args) throws Exception {
        ExactTests bench = null;
        boolean inside = false;
        for (String line : Files.readAllLines(Path.of("README.md"))) {
            if (line.startsWith("```")) {
                inside = line.equals("```java");
            } else if (inside && line.equals("ExactTests bench = new ExactTests();")) {
                bench = new ExactTests();
            } else if (inside) {
                answer(bench, line);
            }
        }
        for (Method method : ExactTests.class.getDeclaredMethods()) {
            if (Modifier.isPublic(method.getModifiers())) {
                due.isTrue("README.md shows " + method.getName(), shown.contains(method.getName()));
            }
        }
        due.close();
    }

    private static void answer(ExactTests bench, String line) throws Exception {
        Matcher call = CALL.matcher(line);
        boolean isCall = bench != null && call.matches();
        due.isTrue("README.md, '" + line + "' is a call on a bench", isCall);
        if (!isCall) {
            return;
        }
        shown.add(call.group(1));
        long got = answerOf(bench, call.group(1), call.group(2));
        if (call.group(3) != null) {
            due.is("README.md, " + line.trim(), got, Long.parseLong(call.group(3)));
        }
    }

    private static long answerOf(ExactTests bench, String name, String numbers) throws Exception {
        String[] words = numbers.isEmpty() ? new String[0] : numbers.split(", *");
        Object[] given = new Object[words.length];
        for (int i = 0; i < words.length; i++) {
            given[i] = Integer.parseInt(words[i]);
        }
        Class<?>[] types = new Class<?>[words.length];
        Arrays.fill(types, int.class);
        return ((Number) ExactTests.class.getMethod(name, types).invoke(bench, given)).longValue();
    }
}
