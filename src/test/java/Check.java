import java.util.function.Consumer;
import java.util.function.Supplier;

/** Compares answers with those that are due, tells each wrong one, and ends the test. */
final class Check {
    private int checks = 0;
    private int wrong = 0;

    void same(String what, Object answer, Object due) {
        checks++;
        if (!due.equals(answer)) {
            wrong++;
            System.out.println(what + ": answered " + answer + ", due is " + due);
        }
    }

    /** The call must throw just this exception and leave the object as the history made it. */
    void refused(String what, Consumer<Wallplan> history, Class<?> due, Consumer<Wallplan> call) {
        Wallplan called = after(history);
        same(what, outcome(() -> {
            call.accept(called);
            return "no exception";
        }), due.getSimpleName());
        same(what + ", and all that can be asked then", Snapshot.of(called), Snapshot.of(after(history)));
    }

    /** The call must leave the object as the history made it. */
    void changesNothing(String what, Consumer<Wallplan> history, Consumer<Wallplan> call) {
        Wallplan called = after(history);
        call.accept(called);
        same(what + " changes nothing", Snapshot.of(called), Snapshot.of(after(history)));
    }

    /** What a call answers, or the name of the exception that it throws. */
    static Object outcome(Supplier<Object> call) {
        try {
            return call.get();
        } catch (RuntimeException thrown) {
            return thrown.getClass().getSimpleName();
        }
    }

    private static Wallplan after(Consumer<Wallplan> history) {
        Wallplan plan = new Wallplan();
        history.accept(plan);
        return plan;
    }

    void finish(String test) {
        System.out.println(test + ": " + checks + " checks, " + wrong + " wrong");
        if (wrong > 0) {
            System.exit(1);
        }
    }
}
