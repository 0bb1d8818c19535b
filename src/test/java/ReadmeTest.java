import java.io.IOException;
import java.lang.reflect.InvocationTargetException;
import java.lang.reflect.Method;
import java.lang.reflect.Modifier;
import java.nio.file.Files;
import java.nio.file.Path;
import java.util.List;
import java.util.Map;
import java.util.TreeMap;
import java.util.TreeSet;
import java.util.regex.Matcher;
import java.util.regex.Pattern;

/** README.md's rows, run one behind another on one object; run from the project's folder. */
public final class ReadmeTest {
    private static final int MOST_CALLS = 512;
    private static final Pattern MADE = Pattern.compile("WheelBook x = new WheelBook\\(\\);");
    private static final Pattern CALL = Pattern.compile("x\\.(\\w+)\\(([^()]*)\\);(?: +// (\\w+|-\\d+)(?:: .*)?)?");
    private static final Pattern TEXT = Pattern.compile("Tell\\.feed\\(x, \"([^\"]*)\"\\); +// (\\d+)(?:: .*)?");
    private static final Pattern TABLE = Pattern.compile("\\| `(\\w+)\\(([^()]*)\\)` \\| .*");

    private static final Map<String, Method> FACE = new TreeMap<>();
    private static final TreeSet<String> IN_ROWS = new TreeSet<>();
    private static final TreeSet<String> IN_TABLES = new TreeSet<>();
    private static WheelBook x;
    private static int calls;

    public static void main(String[] args) throws IOException, IllegalAccessException {
        for (Method method : WheelBook.class.getDeclaredMethods()) {
            if (Modifier.isPublic(method.getModifiers())) {
                FACE.put(method.getName(), method);
            }
        }
        readAll(Files.readAllLines(Path.of("README.md")));
        Check.is("calls of the face in the rows, " + IN_ROWS, IN_ROWS.equals(FACE.keySet()), true);
        Check.is("calls of the face in the tables, " + IN_TABLES, IN_TABLES.equals(FACE.keySet()), true);
        Check.is("at most 512 calls of one object", calls <= MOST_CALLS, true);
        Check.end("ReadmeTest");
    }

    private static void readAll(List<String> lines) throws IllegalAccessException {
        boolean inRows = false;
        for (String line : lines) {
            if (line.startsWith("```")) {
                inRows = line.equals("```java");
            } else if (inRows && !line.isBlank()) {
                runRow(line);
            } else {
                lookAtTable(line);
            }
        }
    }

    private static void lookAtTable(String line) {
        Matcher table = TABLE.matcher(line);
        if (table.matches()) {
            String name = table.group(1);
            IN_TABLES.add(name);
            int told = table.group(2).isEmpty() ? 0 : table.group(2).split(", ").length;
            Check.is("arguments in " + line, FACE.containsKey(name) ? FACE.get(name).getParameterCount() : -1, told);
        }
    }

    private static void runRow(String line) throws IllegalAccessException {
        Matcher call = CALL.matcher(line);
        Matcher text = TEXT.matcher(line);
        if (MADE.matcher(line).matches()) {
            Check.is("one object alone", x == null, true);
            x = new WheelBook();
        } else if (text.matches()) {
            calls += (text.group(1).length() + 19) / 20;
            Check.is(line, Tell.feed(x, text.group(1)), Long.parseLong(text.group(2)));
        } else if (call.matches() && FACE.containsKey(call.group(1))) {
            IN_ROWS.add(call.group(1));
            calls++;
            String got = answer(FACE.get(call.group(1)), call.group(2));
            Check.is(line + " (answered " + got + ")", got.equals(call.group(3) == null ? "null" : call.group(3)), true);
        } else {
            Check.is("a row that can be run: " + line, false, true);
        }
    }

    private static String answer(Method method, String list) throws IllegalAccessException {
        String[] told = list.isEmpty() ? new String[0] : list.split(", ");
        Object[] numbers = new Object[told.length];
        for (int i = 0; i < told.length; i++) {
            numbers[i] = told[i].equals("WheelBook.NONE") ? WheelBook.NONE : Integer.decode(told[i]);
        }
        try {
            return String.valueOf(method.invoke(x, numbers));
        } catch (InvocationTargetException e) {
            return e.getCause().getClass().getSimpleName();
        }
    }
}
