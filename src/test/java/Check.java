import java.util.IdentityHashMap;
import java.util.Map;
import java.util.function.Consumer;
import java.util.function.Supplier;

/** Compares answers with those that are due, tells each wrong one, and ends the test. */
final class Check {
    // What is asked behind a history is found once, as many calls are held against it.
    private final Map<Consumer<Wallplan>, String> snapshots = new IdentityHashMap<>();
    private int checks = 0;
    private int wrong = 0;

    void same(String what, Object answer, Object due) {
        checks++;
        if (!due.equals(answer)) {
            wrong++;
            System.out.println(what + ": answered " + answer + ", due is " + due);
        }
    }

    /** The call must throw just this exception and leave the object as the history made it. */
    void refused(String what, Consumer<Wallplan> history, Class<?> due, Consumer<Wallplan> call) {
        same(what, outcomeBehind(history, call), due.getSimpleName());
        changesNothing(what, history, call);
    }

    /** The call must not throw. */
    void allowed(String what, Consumer<Wallplan> history, Consumer<Wallplan> call) {
        same(what, outcomeBehind(history, call), "no exception");
    }

    /** Whether the call throws or not, it must leave the object as the history made it. */
    void changesNothing(String what, Consumer<Wallplan> history, Consumer<Wallplan> call) {
        String due = snapshots.computeIfAbsent(history, h -> Snapshot.of(() -> behind(h)));
        same(what + ", and what all calls answer then", Snapshot.of(() -> {
            Wallplan plan = behind(history);
            outcomeOf(plan, call);
            return plan;
        }), due);
    }

    private static Object outcomeBehind(Consumer<Wallplan> history, Consumer<Wallplan> call) {
        return outcomeOf(behind(history), call);
    }

    private static Object outcomeOf(Wallplan plan, Consumer<Wallplan> call) {
        return outcome(() -> {
            call.accept(plan);
            return "no exception";
        });
    }

    /** What a call answers, or the name of the exception that it throws. */
    static Object outcome(Supplier<Object> call) {
        try {
            return call.get();
        } catch (RuntimeException thrown) {
            return thrown.getClass().getSimpleName();
        }
    }

    static Wallplan behind(Consumer<Wallplan> history) {
        Wallplan plan = new Wallplan();
        history.accept(plan);
        return plan;
    }

    void finish(String test) {
        System.out.println(test + ": " + checks + " checks, " + wrong + " wrong");
        if (wrong > 0) {
            System.exit(1);
        }
    }
}
