import java.io.IOException;
import java.lang.reflect.InvocationTargetException;
import java.lang.reflect.Method;
import java.nio.file.Files;
import java.nio.file.Path;
import java.util.HashMap;
import java.util.Map;
import java.util.TreeSet;
import java.util.regex.Matcher;
import java.util.regex.Pattern;

/** README.md shows every call of the class, and each answers (or throws) what stands behind it there. */
public final class ReadmeTest {
    private static final Pattern NEW = Pattern.compile("^RollingBalls balls = new RollingBalls\\(([^)]*)\\);.*");
    private static final Pattern CALL = Pattern.compile("^balls\\.(\\w+)\\(([^)]*)\\);\\s*//\\s*([^:]+):.*");
    private static final Pattern TABLE_ROW = Pattern.compile("^\\| `(\\w+)\\(([^)]*)\\)` \\|.*");

    private final Check check = new Check();
    private final Map<String, Method> face = new HashMap<>();
    private final TreeSet<String> shown = new TreeSet<>();
    private final TreeSet<String> explained = new TreeSet<>();
    private RollingBalls balls = null;

    private ReadmeTest() {
        for (Method method : RollingBalls.class.getMethods()) {
            if (method.getDeclaringClass() == RollingBalls.class) {
                face.put(method.getName(), method);
            }
        }
    }

    private void read(String line) throws IllegalAccessException {
        Matcher made = NEW.matcher(line);
        Matcher row = TABLE_ROW.matcher(line);
        if (made.matches()) {
            Object[] sizes = argumentsOf(made.group(1));
            balls = new RollingBalls((int) sizes[0], (int) sizes[1], (int) sizes[2]);
        } else if (line.startsWith("balls.")) {
            readCall(line);
        } else if (row.matches()) {
            readTableRow(row);
        }
    }

    private void readCall(String line) throws IllegalAccessException {
        Matcher call = CALL.matcher(line);
        boolean isTold = call.matches() && face.containsKey(call.group(1));
        check.due(line + ": is a call of the class, with its answer", isTold, true);
        if (isTold) {
            shown.add(call.group(1));
            String got = answerOf(face.get(call.group(1)), argumentsOf(call.group(2)));
            String due = call.group(3).replace("NONE", Integer.toString(RollingBalls.NONE));
            check.due(line + ": answered " + got + ", as told", got.equals(due), true);
        }
    }

    private void readTableRow(Matcher row) {
        explained.add(row.group(1));
        Method method = face.get(row.group(1));
        int parameters = argumentNames(row.group(2));
        check.due(row.group() + ": is a call of the class", method != null
                && method.getParameterCount() == parameters, true);
    }

    private static int argumentNames(String text) {
        return text.isEmpty() ? 0 : text.split(", ").length;
    }

    private static Object[] argumentsOf(String text) {
        if (text.isEmpty()) {
            return new Object[0];
        }
        String[] parts = text.split(", ");
        Object[] arguments = new Object[parts.length];
        for (int n = 0; n < parts.length; n++) {
            boolean isTruth = parts[n].equals("true") || parts[n].equals("false");
            arguments[n] = isTruth ? (Object) Boolean.valueOf(parts[n]) : (Object) Integer.valueOf(parts[n]);
        }
        return arguments;
    }

    private String answerOf(Method method, Object[] arguments) throws IllegalAccessException {
        try {
            return method.invoke(balls, arguments).toString();
        } catch (InvocationTargetException e) {
            return "throws " + e.getCause().getClass().getSimpleName();
        }
    }

    private void end() {
        check.due("a new object is shown", balls != null, true);
        check.due("shown are " + shown + ", due are all", shown.equals(face.keySet()), true);
        check.due("explained are " + explained + ", due are all", explained.equals(face.keySet()), true);
        check.end();
    }

    public static void main(String[] args) throws IOException, IllegalAccessException {
        ReadmeTest test = new ReadmeTest();
        for (String line : Files.readAllLines(Path.of("README.md"))) {
            test.read(line);
        }
        test.end();
    }
}
