import java.io.IOException;
import java.lang.reflect.Constructor;
import java.lang.reflect.Field;
import java.lang.reflect.Method;
import java.lang.reflect.Modifier;
import java.nio.file.Files;
import java.nio.file.Path;
import java.util.ArrayList;
import java.util.List;
import java.util.Set;
import java.util.regex.Matcher;
import java.util.regex.Pattern;

/** What can be told of the rules of LANGUAGE.md from the class and from its source. */
public final class LanguageTest {
    private static final Path SOURCE = Path.of("src/main/java/JointHistory.java");
    private static final Set<Class<?>> CONSTANT_TYPES =
            Set.of(int.class, long.class, boolean.class, char.class, String.class);
    private static final int MOST_CLASSES = 12;
    private static final int MOST_FIELDS = 20;
    private static final int MOST_PARAMETERS = 7;
    private static final int MOST_LINES = 60;

    private static int wrong = 0;

    private static void holds(int rule, String what, boolean right) {
        if (!right) {
            wrong++;
            System.out.println("rule " + rule + ": " + what);
        }
    }

    private static List<Class<?>> classes() {
        List<Class<?>> found = new ArrayList<>();
        found.add(JointHistory.class);
        for (int i = 0; i < found.size(); i++) {
            found.addAll(List.of(found.get(i).getDeclaredClasses()));
        }
        return found;
    }

    /** Comments may say what they like. */
    private static List<String> codeLines() throws IOException {
        List<String> found = new ArrayList<>();
        for (String line : Files.readAllLines(SOURCE)) {
            String bare = line.strip();
            if (!bare.isEmpty() && !bare.startsWith("/") && !bare.startsWith("*")) {
                found.add(line.replaceAll(" *//.*", ""));
            }
        }
        return found;
    }

    private static void classesInside() {
        List<Class<?>> all = classes();
        holds(11, all.size() + " classes", all.size() <= MOST_CLASSES);
        for (Class<?> inside : all.subList(1, all.size())) {
            int modifiers = inside.getModifiers();
            holds(1, inside + " is static and not to be seen",
                    Modifier.isStatic(modifiers) && !Modifier.isPublic(modifiers) && !Modifier.isProtected(modifiers));
        }
    }

    private static void fields() {
        for (Class<?> each : classes()) {
            int ofObjects = 0;
            for (Field field : each.getDeclaredFields()) {
                if (!Modifier.isStatic(field.getModifiers())) {
                    ofObjects++;
                } else if (!field.isSynthetic()) {
                    holds(5, field + " is final", Modifier.isFinal(field.getModifiers()));
                    holds(5, field + " is a constant",
                            field.isEnumConstant() || CONSTANT_TYPES.contains(field.getType()));
                }
            }
            holds(11, each + " has " + ofObjects + " fields", ofObjects <= MOST_FIELDS);
        }
    }

    private static void parameters() {
        for (Class<?> each : classes()) {
            for (Method method : each.getDeclaredMethods()) {
                holds(11, method + ", its parameters", method.getParameterCount() <= MOST_PARAMETERS);
            }
            for (Constructor<?> constructor : each.getDeclaredConstructors()) {
                holds(11, constructor + ", its parameters", constructor.getParameterCount() <= MOST_PARAMETERS);
            }
        }
    }

    /** The program needs nothing of the library, so each name of a type in it is a class of its own. */
    private static void noLibrary(List<String> code) {
        List<String> own = new ArrayList<>();
        for (Class<?> each : classes()) {
            own.add(each.getSimpleName());
        }
        Pattern type = Pattern.compile("\\b[A-Z]\\w*[a-z]\\w*");
        for (String line : code) {
            for (Matcher name = type.matcher(line); name.find();) {
                holds(4, "in " + line.strip(), own.contains(name.group()));
            }
        }
    }

    private static void wordsLeftOut(List<String> code) {
        Pattern words = Pattern.compile("\\b(package|import|throw|throws|try|catch|finally|synchronized|assert"
                + "|instanceof|native|volatile|transient|double|float|equals|hashCode|toString)\\b|->|::|static \\{");
        for (String line : code) {
            holds(6, "in " + line.strip(), !words.matcher(line).find());
        }
    }

    private static void shortMethods(List<String> code) {
        int lines = 0;
        for (String line : code) {
            lines = line.matches(" {4}\\S.*\\{") ? 1 : lines + 1;
            holds(11, "a method longer than " + MOST_LINES + " lines", !line.equals("    }") || lines <= MOST_LINES);
        }
    }

    /** A member's own lines are indented by four, and what stands in it by eight or more. */
    private static void objectsOnlyFromConstructors(List<String> code) {
        String member = "";
        for (String line : code) {
            if (line.matches(" {4}\\S.*")) {
                member = line.strip();
            }
            boolean makes = line.contains("new ");
            boolean mayMake = member.startsWith("public JointHistory()") || member.startsWith("private final ");
            holds(12, "in " + member + " " + line.strip(), !makes || mayMake);
        }
    }

    public static void main(String[] args) throws IOException {
        List<String> code = codeLines();
        holds(1, "the source is read", code.contains("public final class JointHistory {"));
        classesInside();
        fields();
        parameters();
        noLibrary(code);
        wordsLeftOut(code);
        shortMethods(code);
        objectsOnlyFromConstructors(code);
        System.out.println(wrong == 0 ? "the rules hold, as far as they can be told" : wrong + " things break a rule");
        if (wrong != 0) {
            System.exit(1);
        }
    }
}
