import java.io.IOException;
import java.lang.reflect.Method;
import java.lang.reflect.Modifier;
import java.nio.file.Files;
import java.nio.file.Path;
import java.util.HashMap;
import java.util.List;
import java.util.Map;
import java.util.TreeSet;
import java.util.regex.Matcher;
import java.util.regex.Pattern;

/** README.md: its example answers what it tells, and its table has every call with its arguments. */
public final class ReadmeTest {
    private static final Pattern MADE = Pattern.compile("Wallplan plan = new Wallplan\\(\\);");
    private static final Pattern CALL =
        Pattern.compile("(?:int (\\w+) = )?plan\\.(\\w+)\\(([^()]*)\\);\\s+// (\\w+)(?:: .+)?");
    private static final Pattern IN_THE_TABLE = Pattern.compile("`(\\w+)\\(([^()]*)\\)`");
    private static final Map<String, Integer> CONSTANTS =
        Map.of("Wallplan.WALL", Wallplan.WALL, "Wallplan.PIPE", Wallplan.PIPE, "Wallplan.WIRE", Wallplan.WIRE);
    private static final Check check = new Check();

    public static void main(String[] args) throws IOException {
        List<String> lines = Files.readAllLines(Path.of("README.md"));
        example(lines.subList(lines.indexOf("```java") + 1, lines.size()));
        table(lines);
        check.finish("ReadmeTest");
    }

    private static void example(List<String> lines) {
        Wallplan plan = new Wallplan();
        Map<String, Integer> known = new HashMap<>(CONSTANTS);
        check.same("it begins with", MADE.matcher(lines.get(0)).matches(), true);
        int calls = 0;
        for (String line : lines.subList(1, lines.indexOf("```"))) {
            Matcher call = CALL.matcher(line);
            check.same("a call with its answer: " + line, call.matches(), true);
            Object answer = Calls.answer(plan, call.group(2), values(call.group(3), known));
            check.same(line, answer, due(call.group(4)));
            if (call.group(1) != null && answer instanceof Long) {
                known.put(call.group(1), ((Long) answer).intValue());
            }
            calls++;
        }
        check.same("there are calls", calls > 0, true);
    }

    private static int[] values(String arguments, Map<String, Integer> known) {
        if (arguments.isEmpty()) {
            return new int[0];
        }
        String[] words = arguments.split(", ");
        int[] values = new int[words.length];
        for (int i = 0; i < words.length; i++) {
            Integer value = known.get(words[i]);
            values[i] = value != null ? value : Integer.parseInt(words[i]);
        }
        return values;
    }

    // As Calls tells answers: a number, a boolean as 1 or 0, or the name of an exception.
    private static Object due(String word) {
        if (word.equals("true") || word.equals("false")) {
            return word.equals("true") ? 1L : 0L;
        }
        return word.matches("\\d+") ? (Object) Long.valueOf(word) : word;
    }

    private static void table(List<String> lines) {
        TreeSet<String> told = new TreeSet<>();
        for (String line : lines) {
            Matcher call = IN_THE_TABLE.matcher(line);
            while (line.startsWith("| `") && call.find()) {
                int arguments = call.group(2).isEmpty() ? 0 : call.group(2).split(", ").length;
                told.add(call.group(1) + " of " + arguments);
            }
        }
        TreeSet<String> due = new TreeSet<>();
        for (Method method : Wallplan.class.getDeclaredMethods()) {
            if (Modifier.isPublic(method.getModifiers())) {
                due.add(method.getName() + " of " + method.getParameterCount());
            }
        }
        check.same("the calls in the table", told, due);
    }
}
