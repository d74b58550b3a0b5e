import java.io.IOException;
import java.lang.reflect.InvocationTargetException;
import java.lang.reflect.Method;
import java.lang.reflect.Modifier;
import java.nio.file.Files;
import java.nio.file.Path;
import java.util.Set;
import java.util.TreeSet;
import java.util.regex.Matcher;
import java.util.regex.Pattern;

/**
 * The Java code in README.md is read from there and run line by line; each call has the answer that
 * stands behind it, and no method of the class is left out.
 */
public final class ReadmeTest {
    private static final Pattern MADE =
            Pattern.compile("ShareRuns x = new ShareRuns\\((-?\\d+)\\);( +// .*)?");
    private static final Pattern CALLED =
            Pattern.compile("x\\.(\\w+)\\((.*?)\\); +// (throws \\w+|true|false|-?\\d+)(: .*)?");

    private final Checks checks = new Checks();
    private final Set<String> shown = new TreeSet<>();
    private ShareRuns x = null;

    public static void main(String[] args) throws IOException, IllegalAccessException {
        ReadmeTest test = new ReadmeTest();
        test.runCode(Path.of("README.md"));
        test.checks.due("methods shown", test.shown.toString(), publicMethods().toString());
        test.checks.end("ReadmeTest");
    }

    private void runCode(Path readme) throws IOException, IllegalAccessException {
        boolean inCode = false;
        int number = 0;
        for (String line : Files.readAllLines(readme)) {
            number++;
            if (line.startsWith("```")) {
                inCode = line.equals("```java");
                x = null;
            } else if (inCode && !line.isBlank()) {
                runLine("README.md, line " + number + ", " + line, line);
            }
        }
    }

    private void runLine(String where, String line) throws IllegalAccessException {
        Matcher made = MADE.matcher(line);
        Matcher called = CALLED.matcher(line);
        if (made.matches()) {
            x = new ShareRuns(Integer.parseInt(made.group(1)));
        } else if (called.matches() && x != null) {
            shown.add(called.group(1));
            checks.due(where, answerOf(called.group(1), called.group(2)), called.group(3));
        } else {
            checks.due(where, "a line that can't be tested", "a call with its answer");
        }
    }

    private String answerOf(String name, String arguments) throws IllegalAccessException {
        String[] texts = arguments.isEmpty() ? new String[0] : arguments.split(", ");
        Method method = methodOf(name, texts.length);
        if (method == null) {
            return "no such method";
        }
        Object[] values = new Object[texts.length];
        for (int i = 0; i < texts.length; i++) {
            values[i] = valueOf(texts[i], method.getParameterTypes()[i]);
        }
        try {
            return String.valueOf(method.invoke(x, values));
        } catch (InvocationTargetException thrown) {
            return "throws " + thrown.getCause().getClass().getSimpleName();
        }
    }

    private static Object valueOf(String text, Class<?> type) {
        if (type == boolean.class && (text.equals("true") || text.equals("false"))) {
            return text.equals("true");
        }
        if (type == long.class && text.endsWith("L")) {
            return Long.valueOf(text.substring(0, text.length() - 1));
        }
        return Integer.valueOf(text);
    }

    private static Method methodOf(String name, int parameters) {
        for (Method each : ShareRuns.class.getDeclaredMethods()) {
            if (Modifier.isPublic(each.getModifiers()) && each.getName().equals(name)
                    && each.getParameterCount() == parameters) {
                return each;
            }
        }
        return null;
    }

    private static Set<String> publicMethods() {
        Set<String> names = new TreeSet<>();
        for (Method each : ShareRuns.class.getDeclaredMethods()) {
            if (Modifier.isPublic(each.getModifiers())) {
                names.add(each.getName());
            }
        }
        return names;
    }
}
