import java.lang.reflect.Field;
import java.lang.reflect.Method;
import java.lang.reflect.Modifier;
import java.util.Arrays;
import java.util.Map;
import java.util.TreeMap;
import java.util.TreeSet;
import java.util.stream.Collectors;

/** The public face: its constants, its constructor and its methods, and nothing besides. */
public final class FaceTest {
    private static final String INDEX = "IndexOutOfBoundsException";
    private static final String ARGUMENT = "IllegalArgumentException";
    private static final String STATE = "IllegalStateException";

    private static final String[] METHODS = {
        "int add(int int int int int int) " + INDEX + " " + ARGUMENT + " " + STATE,
        "boolean move(int int int int int) " + INDEX + " " + ARGUMENT + " " + STATE,
        "boolean remove(int int int) " + INDEX + " " + ARGUMENT + " " + STATE,
        "int clear(int int int) " + INDEX + " " + ARGUMENT,
        "int part(int int) " + INDEX + " " + ARGUMENT,
        "int lead(int int) " + INDEX + " " + ARGUMENT,
        "int order(int) " + INDEX + " " + STATE,
        "int cancel(int) " + INDEX + " " + STATE,
        "boolean build(int) " + INDEX + " " + STATE,
        "boolean inspect(int) " + INDEX + " " + STATE,
        "int pass(int) " + ARGUMENT + " " + STATE,
        "int day() ",
        "int revision() ",
        "int elementOf(int int) " + INDEX + " " + ARGUMENT,
        "boolean clash(int int) " + INDEX,
        "int clashes(int) " + INDEX,
        "boolean isStopped(int int) " + INDEX,
        "int parts(int) " + INDEX,
        "int partsAnew(int) " + INDEX,
        "int ordered(int) " + INDEX,
        "int kindsAt(int int int) " + INDEX + " " + ARGUMENT,
        "boolean isLocked(int) " + INDEX,
    };

    public static void main(String[] args) throws IllegalAccessException {
        Check check = new Check();
        int modifiers = Wallplan.class.getModifiers();
        check.same("public and final", Modifier.isPublic(modifiers) && Modifier.isFinal(modifiers), true);
        check.same("the methods", openMethods(), new TreeSet<>(Arrays.asList(METHODS)));
        check.same("the constants", openConstants(), Map.of("WALL", 0, "PIPE", 1, "WIRE", 2, "DRAWN", 0,
            "ORDERED", 1, "DELIVERED", 2, "BUILT", 3, "REMOVED", 4));
        check.same("how many constructors", Wallplan.class.getDeclaredConstructors().length, 1);
        check.same("public constructors without arguments",
            Arrays.stream(Wallplan.class.getConstructors()).filter(c -> c.getParameterCount() == 0).count(), 1L);
        check.finish("FaceTest");
    }

    private static TreeSet<String> openMethods() {
        TreeSet<String> found = new TreeSet<>();
        for (Method method : Wallplan.class.getDeclaredMethods()) {
            if (!Modifier.isPrivate(method.getModifiers())) {
                String stat = Modifier.isPublic(method.getModifiers())
                    && !Modifier.isStatic(method.getModifiers()) ? "" : "not public or static: ";
                found.add(stat + method.getReturnType().getSimpleName() + " " + method.getName() + "("
                    + names(method.getParameterTypes()) + ") " + names(method.getExceptionTypes()));
            }
        }
        return found;
    }

    private static String names(Class<?>[] types) {
        return Arrays.stream(types).map(Class::getSimpleName).collect(Collectors.joining(" "));
    }

    private static TreeMap<String, Object> openConstants() throws IllegalAccessException {
        TreeMap<String, Object> found = new TreeMap<>();
        for (Field field : Wallplan.class.getDeclaredFields()) {
            int modifiers = field.getModifiers();
            if (!Modifier.isPrivate(modifiers)) {
                boolean constant = Modifier.isPublic(modifiers) && Modifier.isStatic(modifiers)
                    && Modifier.isFinal(modifiers);
                found.put(field.getName(), constant ? field.get(null) : "no public constant");
            }
        }
        return found;
    }
}
