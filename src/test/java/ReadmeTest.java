import java.io.IOException;
import java.lang.reflect.InvocationTargetException;
import java.lang.reflect.Method;
import java.lang.reflect.Modifier;
import java.nio.file.Files;
import java.nio.file.Path;
import java.util.List;
import java.util.regex.Matcher;
import java.util.regex.Pattern;

/** What README.md shows of the class is so; run it from the project's directory. */
public final class ReadmeTest {
    private static final Pattern MADE =
            Pattern.compile("TargetRows x = new TargetRows\\((-?\\d+), (-?\\d+), (-?\\d+)\\);");
    private static final Pattern CALL =
            Pattern.compile("x\\.(\\w+)\\(([^)]*)\\); +// (throws \\w+|-?\\d+)(:.*)?");
    private static final int FEWEST_CALLS = 20;

    private static TargetRows x;

    public static void main(String[] args) throws IOException, ReflectiveOperationException {
        List<String> lines = Files.readAllLines(Path.of("README.md"));
        exampleHolds(lines);
        eachMethodIsNamed(String.join("\n", lines));
        Due.end("ReadmeTest");
    }

    private static void exampleHolds(List<String> lines) throws ReflectiveOperationException {
        int calls = 0;
        for (String line : lines) {
            Matcher made = MADE.matcher(line);
            Matcher call = CALL.matcher(line);
            if (made.matches()) {
                x = new TargetRows(number(made, 1), number(made, 2), number(made, 3));
            } else if (call.matches()) {
                callHolds(call);
                calls++;
            } else if (line.startsWith("x.")) {
                Due.complain("README.md: a call without its answer: " + line);
            }
        }
        Due.same("README.md: enough calls are shown", calls >= FEWEST_CALLS ? 1 : 0, 1);
    }

    private static int number(Matcher matcher, int group) {
        return Integer.parseInt(matcher.group(group));
    }

    private static void callHolds(Matcher call) throws ReflectiveOperationException {
        String due = call.group(3);
        String got = answerOf(call.group(1), call.group(2));
        Due.same("README.md: " + call.group(0) + " (got " + got + ") is as shown: that",
                got.equals(due) ? 1 : 0, 1);
    }

    private static String answerOf(String name, String args) throws ReflectiveOperationException {
        try {
            return String.valueOf(methodNamed(name).invoke(x, values(args)));
        } catch (InvocationTargetException e) {
            return "throws " + e.getCause().getClass().getSimpleName();
        }
    }

    private static Method methodNamed(String name) throws NoSuchMethodException {
        for (Method m : TargetRows.class.getDeclaredMethods()) {
            if (m.getName().equals(name)) {
                return m;
            }
        }
        throw new NoSuchMethodException(name);
    }

    private static Object[] values(String args) {
        if (args.isEmpty()) {
            return new Object[0];
        }
        String[] texts = args.split(", ");
        Object[] values = new Object[texts.length];
        for (int i = 0; i < texts.length; i++) {
            values[i] = texts[i].equals("true") || texts[i].equals("false")
                    ? (Object) Boolean.valueOf(texts[i]) : (Object) Integer.valueOf(texts[i]);
        }
        return values;
    }

    private static void eachMethodIsNamed(String readme) {
        for (Method m : TargetRows.class.getDeclaredMethods()) {
            if (Modifier.isPublic(m.getModifiers())) {
                Due.same("README.md: a row for " + m.getName(),
                        readme.contains("| `int " + m.getName() + "(") ? 1 : 0, 1);
            }
        }
    }
}
