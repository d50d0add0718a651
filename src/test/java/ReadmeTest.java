import java.io.IOException;
import java.lang.reflect.InvocationTargetException;
import java.lang.reflect.Method;
import java.lang.reflect.Modifier;
import java.nio.file.Files;
import java.nio.file.Path;
import java.util.Arrays;
import java.util.List;
import java.util.TreeSet;
import java.util.regex.Matcher;
import java.util.regex.Pattern;

/**
 * README.md tells what the program does: each call of its example answers as it says there, and its tables have
 * each call of the face once. It runs in the project's directory.
 */
final class ReadmeTest {
    private static final Path README = Path.of("README.md");
    private static final String MADE_NEW = "CheckpointedStream stream = new CheckpointedStream();";
    private static final Pattern CALL = Pattern.compile(
            "stream\\.(\\w+)\\(([-0-9, ]*)\\); +// (-?\\d+|true|false|throws \\w+)(: .+)?");
    private static final Pattern ROW = Pattern.compile("\\| `(\\w+)\\(([a-z, ]*)\\)` \\|.*");

    private static final Check CHECK = new Check("ReadmeTest");

    private final TreeSet<String> called = new TreeSet<>();
    private CheckpointedStream stream;

    public static void main(String[] args) throws IOException {
        List<String> lines = Files.readAllLines(README);
        CHECK.sentence("each call of the example answers as README.md says", () -> new ReadmeTest().goThrough(lines));
        CHECK.sentence("the tables have each call of the face once", () -> tables(lines));
        CHECK.finish();
    }

    private void goThrough(List<String> lines) {
        boolean inExample = false;
        for (String line : lines) {
            if (line.startsWith("```")) {
                inExample = line.equals("```java");
            } else if (inExample && line.equals(MADE_NEW)) {
                stream = new CheckpointedStream();
            } else if (inExample && !line.isEmpty()) {
                makeCall(line);
            }
        }
        TreeSet<String> face = new TreeSet<>();
        for (Method method : methodsOfTheFace()) {
            face.add(method.getName());
        }
        CHECK.sameText("calls of the example", called.toString(), face.toString());
    }

    private void makeCall(String line) {
        Matcher call = CALL.matcher(line);
        boolean isCall = call.matches();
        CHECK.yes("a call and its answer: " + line, isCall);
        if (isCall) {
            called.add(call.group(1));
            CHECK.sameText(line, answerOf(call.group(1), numbersIn(call.group(2))), call.group(3));
        }
    }

    private static Object[] numbersIn(String text) {
        return text.isEmpty() ? new Object[0] : Arrays.stream(text.split(", ")).map(Integer::valueOf).toArray();
    }

    private String answerOf(String name, Object[] numbers) {
        for (Method method : methodsOfTheFace()) {
            if (method.getName().equals(name) && method.getParameterCount() == numbers.length) {
                return answerOf(method, numbers);
            }
        }
        return "no such call";
    }

    private String answerOf(Method method, Object[] numbers) {
        try {
            return String.valueOf(method.invoke(stream, numbers));
        } catch (InvocationTargetException e) {
            return "throws " + e.getCause().getClass().getSimpleName();
        } catch (IllegalAccessException e) {
            return "not to be called";
        }
    }

    private static void tables(List<String> lines) {
        StringBuilder rows = new StringBuilder();
        for (String line : lines) {
            Matcher row = ROW.matcher(line);
            if (row.matches()) {
                int parameters = row.group(2).isEmpty() ? 0 : row.group(2).split(", ").length;
                rows.append(row.group(1)).append(' ').append(parameters).append('\n');
            }
        }
        String[] told = rows.toString().split("\n");
        String[] due = methodsOfTheFace().stream()
                .map(method -> method.getName() + " " + method.getParameterCount()).toArray(String[]::new);
        Arrays.sort(told);
        Arrays.sort(due);
        CHECK.sameText("calls of the tables", Arrays.toString(told), Arrays.toString(due));
    }

    private static List<Method> methodsOfTheFace() {
        return Arrays.stream(CheckpointedStream.class.getDeclaredMethods())
                .filter(method -> Modifier.isPublic(method.getModifiers())).toList();
    }
}
