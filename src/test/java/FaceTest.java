import java.lang.reflect.Constructor;
import java.lang.reflect.Field;
import java.lang.reflect.Method;
import java.lang.reflect.Modifier;
import java.util.Arrays;
import java.util.Set;
import java.util.TreeSet;

/** The face of the class: what the document names, and nothing else that another class could see. */
public final class FaceTest {
    private static int wrong = 0;

    private static void same(String what, Object got, Object want) {
        if (!got.equals(want)) {
            wrong++;
            System.out.println(what + " is " + got + ", due is " + want);
        }
    }

    private static Set<String> setOf(String... texts) {
        return new TreeSet<>(Arrays.asList(texts));
    }

    private static Set<String> visibleMethods() {
        Set<String> found = new TreeSet<>();
        for (Method method : JointHistory.class.getDeclaredMethods()) {
            if (!Modifier.isPrivate(method.getModifiers()) && !method.isSynthetic()) {
                String kind = Modifier.isStatic(method.getModifiers()) ? "static " : "";
                found.add(kind + method.getReturnType() + " " + method.getName()
                        + Arrays.toString(method.getParameterTypes()));
            }
        }
        return found;
    }

    private static Set<String> visibleFields() throws IllegalAccessException {
        Set<String> found = new TreeSet<>();
        for (Field field : JointHistory.class.getDeclaredFields()) {
            if (!Modifier.isPrivate(field.getModifiers()) && !field.isSynthetic()) {
                found.add(Modifier.toString(field.getModifiers()) + " " + field.getType() + " "
                        + field.getName() + " = " + field.get(null));
            }
        }
        return found;
    }

    private static void privateNames() {
        Set<String> open = new TreeSet<>();
        for (Method method : JointHistory.class.getDeclaredMethods()) {
            if (Modifier.isPublic(method.getModifiers())) {
                open.add(method.getName());
            }
        }
        for (Method method : JointHistory.class.getDeclaredMethods()) {
            if (Modifier.isPrivate(method.getModifiers())) {
                same("private method " + method.getName() + " has a public name",
                        open.contains(method.getName()), false);
            }
        }
    }

    public static void main(String[] args) throws IllegalAccessException {
        same("the class", Modifier.toString(JointHistory.class.getModifiers()), "public final");
        Constructor<?>[] constructors = JointHistory.class.getDeclaredConstructors();
        same("constructors", constructors.length, 1);
        same("parameters", constructors[0].getParameterCount(), 0);
        same("constructor", Modifier.toString(constructors[0].getModifiers()), "public");
        same("methods", visibleMethods(), setOf(
                "boolean content[int, int, int, boolean]", "boolean detour[int, int]",
                "boolean fault[int]", "int navigate[int, int, boolean]",
                "int rewrite[int, int, int, boolean]", "int go[int]", "int detach[int]",
                "int url[int]", "long state[int]", "int step[int]", "int origin[int]",
                "int frame[int, int]", "int entries[int]", "int present[]", "int length[]",
                "int count[int]"));
        same("fields", visibleFields(), setOf(
                "public static final int BLANK = -1", "public static final int NO_FRAME = -2",
                "public static final int BAD = -3", "public static final int HIDDEN = -4",
                "public static final int FULL = -5", "public static final int FORBIDDEN = -6",
                "public static final int NONE = -7"));
        privateNames();
        System.out.println(wrong == 0 ? "the face is as due" : wrong + " things are not as due");
        if (wrong != 0) {
            System.exit(1);
        }
    }
}
