import java.util.Arrays;
import java.util.List;
import java.util.Random;
import java.util.TreeSet;

/**
 * Runs of 512 calls, drawn from fixed seeds, on the program and on PlainModel: each answer must be
 * the same. At the end each kind of outcome must have come up, so that no call is tested in vain.
 */
public final class RandomRunsTest {
    private static final int RUNS = 600;
    private static final int CALLS = 512;
    private static final int[] FAR_OFF = {-1, 3, 4, 12, 13, 40, 101, Integer.MIN_VALUE, Integer.MAX_VALUE};

    // Each name stands as often as its calls are to be drawn.
    private static final String[] CALLS_TO_DRAW = {
        "add", "add", "add", "add", "move", "move", "move", "move", "remove", "clear", "clear", "part", "lead",
        "order", "order", "order", "order", "cancel", "build", "build", "build", "build", "inspect", "inspect",
        "pass", "pass", "day", "revision", "elementOf", "elementOf", "elementOf", "clash", "clash", "clashes",
        "isStopped", "parts", "partsAnew", "ordered", "kindsAt", "kindsAt", "isLocked",
    };

    private static final String[] DUE_OUTCOMES = {
        "add I", "add A", "add S", "add ok", "move I", "move A", "move S", "move 0", "move 1", "remove I",
        "remove A", "remove S", "remove 1", "clear I", "clear A", "clear ok", "part I", "part A", "part ok",
        "lead I", "lead A", "lead ok", "order I", "order S", "order ok", "cancel I", "cancel S", "cancel ok",
        "build I", "build S", "build 0", "build 1", "inspect I", "inspect S", "inspect 0", "inspect 1", "pass A",
        "pass S", "pass ok", "day ok", "revision ok", "elementOf I", "elementOf A", "elementOf ok", "clash I",
        "clash 0", "clash 1", "clashes I", "clashes ok", "isStopped I", "isStopped 0", "isStopped 1", "parts I",
        "parts ok", "partsAnew I", "partsAnew ok", "ordered I", "ordered ok", "kindsAt I", "kindsAt A",
        "kindsAt ok", "isLocked I", "isLocked 0", "isLocked 1",
    };

    private static final List<String> ANSWERS_BY_BIT =
        List.of("move", "remove", "build", "inspect", "clash", "isStopped", "isLocked");

    private static final Check check = new Check();
    private static final TreeSet<String> outcomes = new TreeSet<>();

    public static void main(String[] args) {
        for (int run = 0; run < RUNS; run++) {
            oneRun(run);
        }
        check.same("the outcomes that came up", outcomes, new TreeSet<>(Arrays.asList(DUE_OUTCOMES)));
        check.finish("RandomRunsTest");
    }

    private static void oneRun(int run) {
        Random random = new Random(run);
        int storeys = 1 + run % 4;
        int mostItems = run % 3 == 0 ? 40 : 3 + run % 9;
        int longestPass = run % 2 == 0 ? 3 : 60;
        Wallplan plan = new Wallplan();
        PlainModel model = new PlainModel();
        for (int call = 0; call < CALLS; call++) {
            String name = CALLS_TO_DRAW[random.nextInt(CALLS_TO_DRAW.length)];
            if (name.equals("add") && model.items() >= mostItems && random.nextInt(20) > 0) {
                name = "build";
            }
            int[] a = arguments(random, name, model, storeys, longestPass);
            Object due = model.call(name, a);
            String what = "run " + run + ", call " + call + ": " + name + Arrays.toString(a);
            check.same(what, Calls.answer(plan, name, a), due);
            outcomes.add(name + " " + outcomeOf(name, due));
        }
    }

    private static String outcomeOf(String name, Object answer) {
        if (answer instanceof String) {
            return answer.toString().replaceAll("(I)ndex.*|Illegal(.).*", "$1$2");
        }
        return ANSWERS_BY_BIT.contains(name) ? answer.toString() : "ok";
    }

    private static int[] arguments(Random random, String name, PlainModel model, int storeys, int longestPass) {
        int item = item(random, model);
        int kind = random.nextInt(3);
        int storey = random.nextInt(storeys);
        int[] drawn;
        switch (name) {
            case "add": drawn = row(random, kind, storey); break;
            case "move": drawn = new int[] {kind, base(random, model), item, step(random), step(random)}; break;
            case "remove": drawn = new int[] {kind, base(random, model), item}; break;
            case "clear": drawn = new int[] {kind, random.nextInt(3), Math.max(0, random.nextInt(6) - 2)}; break;
            case "part": drawn = new int[] {kind, 1 + random.nextInt(12)}; break;
            case "lead": drawn = new int[] {kind, random.nextInt(random.nextInt(3) > 0 ? 6 : 101)}; break;
            case "pass": drawn = new int[] {1 + random.nextInt(longestPass)}; break;
            case "elementOf": drawn = new int[] {item, random.nextInt(10)}; break;
            case "clash": drawn = new int[] {item, item(random, model)}; break;
            case "isStopped": drawn = new int[] {kind, storey}; break;
            case "kindsAt": drawn = new int[] {storey, random.nextInt(12), random.nextInt(12)}; break;
            case "inspect": case "clashes": case "isLocked": drawn = new int[] {storey}; break;
            case "order": case "cancel": case "build": drawn = new int[] {item}; break;
            case "day": case "revision": drawn = new int[0]; break;
            default: drawn = new int[] {kind}; break;
        }
        for (int i = 0; i < drawn.length; i++) {
            if (random.nextInt(40) == 0) {
                drawn[i] = FAR_OFF[random.nextInt(FAR_OFF.length)];
            }
        }
        return drawn;
    }

    private static int item(Random random, PlainModel model) {
        return random.nextInt(Math.max(1, model.items()));
    }

    private static int base(Random random, PlainModel model) {
        int now = model.revisionNow();
        return random.nextInt(3) == 0 ? random.nextInt(now + 1) : Math.max(0, now - random.nextInt(4));
    }

    private static int step(Random random) {
        return random.nextInt(4) > 0 ? random.nextInt(3) - 1 : random.nextInt(23) - 11;
    }

    private static int[] row(Random random, int kind, int storey) {
        int x = random.nextInt(12);
        int y = random.nextInt(12);
        int to = random.nextInt(12);
        boolean alongX = random.nextBoolean();
        return new int[] {kind, storey, x, y, alongX ? to : x, alongX ? y : to};
    }
}
