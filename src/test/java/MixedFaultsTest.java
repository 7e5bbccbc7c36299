import java.lang.reflect.Method;
import java.util.ArrayList;
import java.util.Arrays;
import java.util.List;
import java.util.Set;
import java.util.TreeMap;
import java.util.TreeSet;
import java.util.function.Consumer;

/**
 * "If several exceptions of a throws clause apply, the one that is listed first is thrown. A call of
 * a method that throws an exception changes nothing." Each call is made with every mix of arguments
 * in range and out of it, in several situations, and held against PlainModel; where it is refused,
 * all that the calls answer must be as it was.
 */
public final class MixedFaultsTest {
    private static final String SOME_OF_EACH = "add 0 0 2 2 6 2,add 1 0 11 4 11 9,add 2 3 0 0 0 11,add 1 0 5 5 5 5,"
        + "add 2 0 1 7 3 7,remove 1 4 3,lead 2 0,order 2,build 2,inspect 3,order 4,order 0,pass 3,clear 0 1 2,"
        + "clear 1 2 3,part 1 4";
    private static final String DAY_401 = "add 1 2 4 7 4 7,order 0,pass 100,pass 100,pass 100,pass 100,pass 1,"
        + "lead 1 100,add 1 2 4 8 4 8,order 1,clear 1 1 2";
    private static final String LAST_DAY = DAY_401 + ",pass 99";
    private static final String[] SITUATIONS = {"", SOME_OF_EACH, DAY_401, LAST_DAY, full()};

    private static final int[] KINDS = {-1, 0, 2, 3};
    private static final int[] STOREYS = {-1, 0, 3, 4};
    private static final int[] STEPS = {-12, -11, 0, 1, 12};

    private static final Check check = new Check();
    private static final TreeMap<String, TreeSet<String>> refusals = new TreeMap<>();

    public static void main(String[] args) {
        for (String situation : SITUATIONS) {
            PlainModel model = played(situation);
            int count = model.items();
            int now = model.revisionNow();
            int[] elements = {-1, 0, 1, 2, 3, 4, count - 1, count};
            int[] bases = {-1, 0, now, now + 1};
            mix(situation, "add", KINDS, STOREYS, new int[] {-1, 4}, new int[] {7, 12}, new int[] {4, 5, 12},
                new int[] {-1, 7, 8});
            mix(situation, "move", KINDS, bases, elements, STEPS, STEPS);
            mix(situation, "remove", KINDS, bases, elements);
            mix(situation, "clear", KINDS, KINDS, new int[] {-1, 0, 3, 4});
            mix(situation, "part", KINDS, new int[] {0, 1, 12, 13});
            mix(situation, "lead", KINDS, new int[] {-1, 0, 100, 101});
            mix(situation, "order", elements);
            mix(situation, "cancel", elements);
            mix(situation, "build", elements);
            mix(situation, "inspect", STOREYS);
            mix(situation, "pass", new int[] {-1, 0, 1, 99, 100, 101});
            mix(situation, "elementOf", elements, new int[] {-1, 0, 9, 10});
            mix(situation, "clash", elements, elements);
            mix(situation, "clashes", STOREYS);
            mix(situation, "isStopped", KINDS, STOREYS);
            mix(situation, "parts", KINDS);
            mix(situation, "partsAnew", KINDS);
            mix(situation, "ordered", KINDS);
            mix(situation, "kindsAt", STOREYS, new int[] {-1, 0, 11, 12}, new int[] {-1, 0, 11, 12});
            mix(situation, "isLocked", STOREYS);
        }
        eachExceptionCameUp();
        check.finish("MixedFaultsTest");
    }

    /** Forty elements in all states; storey 3 is locked. */
    private static String full() {
        StringBuilder script = new StringBuilder(SOME_OF_EACH);
        for (int number = 5; number < 40; number++) {
            script.append(",add ").append(number % 3).append(' ').append(number % 3);
            script.append(' ').append(number % 12).append(" 4 ").append(number % 12).append(" 6");
        }
        return script.toString();
    }

    /** Makes the call with each mix of these values, one list of them for each argument. */
    private static void mix(String situation, String name, int[]... values) {
        Consumer<Wallplan> then = plan -> play(situation, (called, a) -> Calls.answer(plan, called, a));
        for (int[] a : mixes(values)) {
            String what = "behind \"" + (situation.length() > 300 ? "the full model" : situation) + "\": " + name
                + Arrays.toString(a);
            Object due = played(situation).call(name, a);
            check.same(what, Calls.answer(Check.behind(then), name, a), due);
            if (due instanceof String) {
                refusals.computeIfAbsent(name, n -> new TreeSet<>()).add(due.toString());
                check.changesNothing(what, then, plan -> Calls.answer(plan, name, a));
            }
        }
    }

    private static List<int[]> mixes(int[][] values) {
        List<int[]> found = new ArrayList<>();
        found.add(new int[0]);
        for (int[] ofOne : values) {
            List<int[]> longer = new ArrayList<>();
            for (int[] begun : found) {
                for (int value : ofOne) {
                    int[] mix = Arrays.copyOf(begun, begun.length + 1);
                    mix[begun.length] = value;
                    longer.add(mix);
                }
            }
            found = longer;
        }
        return found;
    }

    private interface Caller {
        Object call(String name, int[] a);
    }

    private static PlainModel played(String situation) {
        PlainModel model = new PlainModel();
        play(situation, model::call);
        return model;
    }

    private static void play(String situation, Caller caller) {
        if (situation.isEmpty()) {
            return;
        }
        for (String call : situation.split(",")) {
            String[] words = call.split(" ");
            int[] a = new int[words.length - 1];
            for (int i = 0; i < a.length; i++) {
                a[i] = Integer.parseInt(words[i + 1]);
            }
            caller.call(words[0], a);
        }
    }

    private static void eachExceptionCameUp() {
        Set<String> all = Set.of("IndexOutOfBoundsException", "IllegalArgumentException", "IllegalStateException");
        for (Method method : Wallplan.class.getMethods()) {
            TreeSet<String> due = new TreeSet<>();
            for (Class<?> type : method.getExceptionTypes()) {
                if (all.contains(type.getSimpleName())) {
                    due.add(type.getSimpleName());
                }
            }
            if (method.getDeclaringClass() == Wallplan.class && !due.isEmpty()) {
                check.same("the exceptions of " + method.getName(), refusals.get(method.getName()), due);
            }
        }
    }
}
