import java.io.IOException;
import java.lang.reflect.Executable;
import java.lang.reflect.Field;
import java.lang.reflect.Method;
import java.lang.reflect.Modifier;
import java.nio.file.Files;
import java.nio.file.Path;
import java.util.ArrayList;
import java.util.List;
import java.util.Set;
import java.util.TreeSet;
import java.util.regex.Matcher;
import java.util.regex.Pattern;

/**
 * What can be read off the source: that the calls stand in the document's order below the heads that
 * it names, and those rules of LANGUAGE.md that a word or a signature breaks. A check that belongs to
 * a rule begins with its number. Some go further than the rule, where the program has no need of what
 * the rule allows: it has no try, and no library but Math.
 */
public final class SourceTest {
    private static final String[] IN_ORDER = {
        "---- edits", "add", "move", "remove", "clear",
        "---- orders, days", "part", "lead", "order", "cancel", "build", "inspect", "pass",
        "---- what is asked", "day", "revision", "elementOf", "clash", "clashes", "isStopped", "parts", "partsAnew",
        "ordered", "kindsAt", "isLocked",
    };

    private static final String[][] RULED_OUT = {
        {"1", "\\b(package|import|protected)\\b"},
        {"2", "->|::"},
        {"4", "\\b(System|Objects|Collections|Arrays|List|String)[.]|Exact\\b"},
        {"5", "\\bstatic\\s*[{]"},
        {"6", "\\b(try|catch|finally|synchronized|assert|equals|hashCode|toString)\\b"},
        {"10", "[+]\\s*\"|\"\\s*[+]"},
        {"13", "\\b(Random|Thread|File|Files|nanoTime|currentTimeMillis)\\b"},
    };

    private static final Set<String> THROWN =
        Set.of("IllegalStateException", "IllegalArgumentException", "IndexOutOfBoundsException");

    private static final Check check = new Check();

    public static void main(String[] args) throws IOException {
        String source = Files.readString(Path.of("src/main/java/Wallplan.java"));
        check.same("heads and calls", headsAndCalls(source), List.of(IN_ORDER));
        for (String[] rule : RULED_OUT) {
            check.same(rule[0] + ": what is ruled out", found(withoutComments(source), rule[1]), List.of());
        }
        for (String thrown : found(source, "throw new \\w+")) {
            check.same("6: " + thrown, THROWN.contains(thrown.replace("throw new ", "")), true);
        }
        check.same("4: characters above 126", source.chars().anyMatch(c -> c > 126), false);
        members();
        check.finish("SourceTest");
    }

    private static List<String> headsAndCalls(String source) {
        List<String> found = new ArrayList<>();
        Matcher matcher = Pattern.compile("// (---- .*)|public (?:int|boolean) (\\w+)\\(").matcher(source);
        while (matcher.find()) {
            found.add(matcher.group(1) != null ? matcher.group(1) : matcher.group(2));
        }
        // The heads behind the last call are the program's own.
        return found.subList(0, found.indexOf("isLocked") + 1);
    }

    private static String withoutComments(String source) {
        return source.replaceAll("(?s)/[*].*?[*]/", "").replaceAll("//.*", "");
    }

    private static List<String> found(String text, String pattern) {
        List<String> found = new ArrayList<>();
        Matcher matcher = Pattern.compile(pattern).matcher(text);
        while (matcher.find()) {
            found.add(matcher.group());
        }
        return found;
    }

    private static void members() {
        List<Class<?>> classes = new ArrayList<>(List.of(Wallplan.class.getDeclaredClasses()));
        for (Class<?> inside : classes) {
            int modifiers = inside.getModifiers();
            boolean open = Modifier.isPublic(modifiers) || Modifier.isProtected(modifiers);
            check.same("1: " + inside.getName() + " is static and not open", Modifier.isStatic(modifiers) && !open,
                true);
        }
        classes.add(Wallplan.class);
        check.same("11: how many classes", classes.size() <= 12, true);
        TreeSet<String> openNames = new TreeSet<>();
        for (Method method : Wallplan.class.getMethods()) {
            openNames.add(method.getName());
        }
        for (Class<?> one : classes) {
            fields(one);
            for (Executable constructor : one.getDeclaredConstructors()) {
                parameters(constructor);
            }
            for (Method method : one.getDeclaredMethods()) {
                parameters(method);
                boolean named = one == Wallplan.class && Modifier.isPublic(method.getModifiers());
                check.same("1: the name of " + method, named || !openNames.contains(method.getName()), true);
            }
        }
    }

    private static void parameters(Executable executable) {
        check.same("11: parameters of " + executable, executable.getParameterCount() <= 7, true);
    }

    private static void fields(Class<?> one) {
        int ofObjects = 0;
        for (Field field : one.getDeclaredFields()) {
            int modifiers = field.getModifiers();
            if (Modifier.isStatic(modifiers)) {
                check.same("5: " + field + " is final", Modifier.isFinal(modifiers), true);
            } else {
                ofObjects++;
            }
        }
        check.same("11: fields of " + one.getName(), ofObjects <= 20, true);
    }
}
