import java.io.IOException;
import java.lang.reflect.Method;
import java.nio.file.Files;
import java.nio.file.Path;
import java.util.regex.Matcher;
import java.util.regex.Pattern;

/** The example in README.md: each of its calls must answer what stands behind it there. */
public final class ReadmeTest {
    private static final Pattern CALL = Pattern.compile("history\\.(\\w+)\\(([^)]*)\\); +// (-?\\w+): .+");

    private static int wrong = 0;
    private static int ran = 0;

    private static void complain(String text) {
        wrong++;
        System.out.println(text);
    }

    private static Method methodNamed(String name) {
        for (Method method : JointHistory.class.getMethods()) {
            if (method.getDeclaringClass() == JointHistory.class && method.getName().equals(name)) {
                return method;
            }
        }
        throw new IllegalArgumentException("no method " + name);
    }

    private static Object valueOf(String text) {
        switch (text) {
            case "true":
                return true;
            case "false":
                return false;
            case "JointHistory.BLANK":
                return JointHistory.BLANK;
            case "JointHistory.NO_FRAME":
                return JointHistory.NO_FRAME;
            default:
                return Integer.valueOf(text);
        }
    }

    private static Object[] valuesOf(String texts) {
        String[] parts = texts.isEmpty() ? new String[0] : texts.split(", ");
        Object[] values = new Object[parts.length];
        for (int i = 0; i < parts.length; i++) {
            values[i] = valueOf(parts[i]);
        }
        return values;
    }

    private static void runLine(JointHistory history, String line) throws ReflectiveOperationException {
        Matcher call = CALL.matcher(line);
        if (!call.matches()) {
            complain("no call with its answer: " + line);
            return;
        }
        Object got = methodNamed(call.group(1)).invoke(history, valuesOf(call.group(2)));
        ran++;
        if (!got.toString().equals(call.group(3))) {
            complain(line + " -- answered " + got);
        }
    }

    public static void main(String[] args) throws IOException, ReflectiveOperationException {
        String text = Files.readString(Path.of("README.md"));
        String[] example = text.split("```java\n")[1].split("```")[0].split("\n");
        if (!example[0].equals("JointHistory history = new JointHistory();")) {
            complain("the example begins with: " + example[0]);
        }
        JointHistory history = new JointHistory();
        for (int i = 1; i < example.length; i++) {
            runLine(history, example[i]);
        }
        for (Method method : JointHistory.class.getMethods()) {
            if (method.getDeclaringClass() == JointHistory.class && !text.contains("`" + method.getName() + "(")) {
                complain("README.md does not tell of " + method.getName());
            }
        }
        System.out.println(wrong == 0 ? ran + " calls of README.md are as told" : wrong + " things are not as told");
        if (wrong != 0 || ran == 0) {
            System.exit(1);
        }
    }
}
