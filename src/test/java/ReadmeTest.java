import java.io.IOException;
import java.lang.reflect.InvocationTargetException;
import java.lang.reflect.Method;
import java.lang.reflect.Modifier;
import java.nio.file.Files;
import java.nio.file.Path;
import java.util.List;
import java.util.regex.Matcher;
import java.util.regex.Pattern;

/** README.md tells every call of the face with what it throws, and its example's answers are true. */
public final class ReadmeTest {
    private static final Pattern ROW = Pattern.compile("\\| `(int|long) (\\w+)\\(([^)]*)\\)` \\|(.+)\\|(.+)\\|");
    private static final Pattern STEP =
            Pattern.compile("x\\.(\\w+)\\(([^)]*)\\);\\s*// (throws \\w+|-?\\d+): .+");
    private static final Pattern EXCEPTION = Pattern.compile("\\w+Exception");
    private static final Checks CHECKS = new Checks();

    public static void main(String[] args) throws IOException, ReflectiveOperationException {
        List<String> lines = Files.readAllLines(Path.of("README.md"));
        everyCallHasItsRow(lines);
        exampleIsTrue(lines);
        CHECKS.finish();
    }

    private static void everyCallHasItsRow(List<String> lines) {
        int calls = 0;
        for (Method method : ClockTexts.class.getDeclaredMethods()) {
            if (Modifier.isPublic(method.getModifiers())) {
                calls++;
                CHECKS.due("rows of " + method.getName(), rowsOf(method, lines), 1);
            }
        }
        CHECKS.due("calls of the face", calls, 12);
    }

    private static int rowsOf(Method method, List<String> lines) {
        int rows = 0;
        for (String line : lines) {
            Matcher row = ROW.matcher(line);
            if (!row.matches() || !row.group(2).equals(method.getName())) {
                continue;
            }
            rows++;
            String name = "the row of " + method.getName();
            CHECKS.dueText(name + ": answer", row.group(1), method.getReturnType().getName());
            CHECKS.due(name + ": parameters", numberOf(row.group(3)), method.getParameterCount());
            CHECKS.dueText(name + ": exceptions", exceptionsIn(row.group(5)), exceptionsOf(method));
        }
        return rows;
    }

    private static int numberOf(String parameters) {
        return parameters.isEmpty() ? 0 : parameters.split(",").length;
    }

    private static String exceptionsIn(String words) {
        StringBuilder names = new StringBuilder();
        Matcher name = EXCEPTION.matcher(words);
        while (name.find()) {
            names.append(name.group()).append(' ');
        }
        return names.toString();
    }

    private static String exceptionsOf(Method method) {
        StringBuilder names = new StringBuilder();
        for (Class<?> type : method.getExceptionTypes()) {
            names.append(type.getSimpleName()).append(' ');
        }
        return names.toString();
    }

    private static void exampleIsTrue(List<String> lines) throws ReflectiveOperationException {
        ClockTexts x = new ClockTexts();
        int steps = 0;
        for (String line : lines) {
            if (!line.startsWith("x.")) {
                continue;
            }
            Matcher step = STEP.matcher(line);
            if (!step.matches()) {
                CHECKS.tell("a step of the example without an answer: " + line);
                continue;
            }
            steps++;
            CHECKS.dueText(line, answerOf(x, step.group(1), step.group(2)), step.group(3));
        }
        CHECKS.due("the example has steps", steps > 0 ? 1 : 0, 1);
    }

    private static String answerOf(ClockTexts x, String name, String words) throws ReflectiveOperationException {
        Object[] values = new Object[numberOf(words)];
        Class<?>[] types = new Class<?>[values.length];
        for (int i = 0; i < values.length; i++) {
            values[i] = Integer.decode(words.split(",")[i].trim());
            types[i] = int.class;
        }
        try {
            return String.valueOf(ClockTexts.class.getMethod(name, types).invoke(x, values));
        } catch (InvocationTargetException thrown) {
            return "throws " + thrown.getCause().getClass().getSimpleName();
        }
    }
}
