import java.io.IOException;
import java.lang.reflect.Method;
import java.nio.file.Files;
import java.nio.file.Path;
import java.util.ArrayList;
import java.util.List;
import java.util.Set;
import java.util.TreeSet;
import java.util.regex.Matcher;
import java.util.regex.Pattern;

/** The calls that README.md prints answer what it prints beside them. Run from the project's directory. */
public final class ReadmeTest {
    private static final Check CHECK = new Check("ReadmeTest");
    private static final Pattern MADE = Pattern.compile("TrustRows rows = new TrustRows\\((-?\\d+)\\);( *// .*)?");
    private static final Pattern CALL = Pattern.compile("rows\\.(\\w+)\\(([^()]*)\\);(?: *// (.*))?");
    private static final Pattern ANSWER = Pattern.compile("(-?\\d+|true|false): .*");

    private final Set<String> called = new TreeSet<>();
    private TrustRows rows = null;

    public static void main(String[] args) throws IOException, ReflectiveOperationException {
        ReadmeTest test = new ReadmeTest();
        for (String line : exampleLines()) {
            test.run(line);
        }
        test.everyMethodIsShown();
        CHECK.end();
    }

    private static List<String> exampleLines() throws IOException {
        List<String> lines = new ArrayList<>();
        boolean inside = false;
        for (String line : Files.readAllLines(Path.of("README.md"))) {
            if (line.startsWith("```")) {
                inside = line.equals("```java");
            } else if (inside && !line.isBlank()) {
                lines.add(line);
            }
        }
        return lines;
    }

    /** A line that can't be read is a wrong one, so that none goes unasked. */
    private void run(String line) throws ReflectiveOperationException {
        Matcher made = MADE.matcher(line);
        Matcher call = CALL.matcher(line);
        if (made.matches()) {
            rows = new TrustRows(Integer.parseInt(made.group(1)));
        } else if (call.matches() && rows != null) {
            runCall(line, methodNamed(call.group(1)), call.group(2), call.group(3));
        } else {
            CHECK.due("a line that is no call: " + line, 0L, 1L);
        }
    }

    private void runCall(String line, Method method, String written, String comment)
            throws ReflectiveOperationException {
        called.add(method.getName());
        Object got = method.invoke(rows, values(method, written));
        if (method.getReturnType() == void.class) {
            return;
        }
        Matcher answer = ANSWER.matcher(comment == null ? "" : comment);
        boolean told = answer.matches();
        CHECK.due("an answer stands beside " + line, told, true);
        CHECK.due(line + " [answered " + got + "]", told && answer.group(1).equals(String.valueOf(got)), true);
    }

    private static Method methodNamed(String name) throws NoSuchMethodException {
        for (Method method : TrustRows.class.getMethods()) {
            if (method.getName().equals(name) && method.getDeclaringClass() == TrustRows.class) {
                return method;
            }
        }
        throw new NoSuchMethodException(name);
    }

    private static Object[] values(Method method, String written) {
        String[] words = written.isEmpty() ? new String[0] : written.split(", ");
        Class<?>[] types = method.getParameterTypes();
        Object[] values = new Object[words.length];
        for (int i = 0; i < words.length; i++) {
            values[i] = value(types[i], words[i]);
        }
        return values;
    }

    private static Object value(Class<?> type, String word) {
        if (type == boolean.class) {
            return Boolean.valueOf(word);
        }
        if (type == long.class) {
            return Long.valueOf(word.substring(0, word.length() - 1));
        }
        return word.equals("TrustRows.NONE") ? Integer.valueOf(TrustRows.NONE) : Integer.valueOf(word);
    }

    private void everyMethodIsShown() {
        for (Method method : TrustRows.class.getMethods()) {
            if (method.getDeclaringClass() == TrustRows.class) {
                CHECK.due("README.md shows " + method.getName(), called.contains(method.getName()), true);
            }
        }
    }
}
