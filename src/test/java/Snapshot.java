import java.util.function.Function;
import java.util.function.Supplier;

/**
 * All that the calls answer behind a history, in one text. Each part of it is asked of an object of
 * its own with that history: some of the calls change the object, and none is used for more than 512.
 */
final class Snapshot {
    private static final int ELEMENTS_AT_ONCE = 8;
    // More than there can be, so that a wrong one is seen, and a program without an end of them too.
    private static final int MOST_ASKED_FOR = 48;

    private final Supplier<Wallplan> made;
    private final StringBuilder text = new StringBuilder();

    private Snapshot(Supplier<Wallplan> made) {
        this.made = made;
    }

    static String of(Supplier<Wallplan> made) {
        return new Snapshot(made).ofAll();
    }

    private String ofAll() {
        part("the house:", Snapshot::ofTheHouse);
        int elements = countElements(made.get());
        for (int least = 0; least < elements; least += ELEMENTS_AT_ONCE) {
            int from = least;
            int to = Math.min(elements, least + ELEMENTS_AT_ONCE);
            part("elements from " + from + ":", plan -> ofElements(plan, from, to));
            part("clashes of elements from " + from + ":", plan -> ofClashes(plan, from, to, elements));
        }
        for (int storey = 0; storey < 4; storey++) {
            int asked = storey;
            part("kinds on storey " + storey + ":", plan -> ofCells(plan, asked));
        }
        part("days left:", plan -> ofOrders(plan, elements));
        part("settings:", Snapshot::ofSettings);
        part("the next element:", Snapshot::ofTheNextElement);
        return text.toString();
    }

    private void part(String what, Function<Wallplan, String> asked) {
        text.append(what).append(asked.apply(made.get())).append('\n');
    }

    private static int countElements(Wallplan plan) {
        int count = 0;
        while (count < MOST_ASKED_FOR && isElement(plan, count)) {
            count++;
        }
        return count;
    }

    private static boolean isElement(Wallplan plan, int element) {
        return Check.outcome(() -> plan.elementOf(element, 0)) instanceof Integer;
    }

    private static String ofTheHouse(Wallplan plan) {
        StringBuilder told = new StringBuilder();
        told.append(" day ").append(plan.day()).append(" revision ").append(plan.revision());
        for (int kind = 0; kind < 3; kind++) {
            told.append(" parts ").append(plan.parts(kind));
            told.append('/').append(plan.partsAnew(kind)).append('/').append(plan.ordered(kind));
        }
        for (int storey = 0; storey < 4; storey++) {
            told.append(" clashes ").append(plan.clashes(storey));
            told.append(plan.isLocked(storey) ? " locked" : " open");
            for (int trade = 0; trade < 3; trade++) {
                told.append(plan.isStopped(trade, storey) ? " stopped" : " free");
            }
        }
        return told.toString();
    }

    private static String ofElements(Wallplan plan, int from, int to) {
        StringBuilder told = new StringBuilder();
        for (int element = from; element < to; element++) {
            for (int what = 0; what < 10; what++) {
                told.append(' ').append(plan.elementOf(element, what));
            }
            told.append(';');
        }
        return told.toString();
    }

    private static String ofClashes(Wallplan plan, int from, int to, int elements) {
        StringBuilder told = new StringBuilder();
        for (int element = from; element < to; element++) {
            for (int other = 0; other < elements; other++) {
                told.append(plan.clash(element, other) ? " x" : " -");
            }
        }
        return told.toString();
    }

    private static String ofCells(Wallplan plan, int storey) {
        StringBuilder told = new StringBuilder();
        for (int y = 0; y < 12; y++) {
            for (int x = 0; x < 12; x++) {
                told.append(' ').append(plan.kindsAt(storey, x, y));
            }
        }
        return told.toString();
    }

    private static String ofOrders(Wallplan plan, int elements) {
        StringBuilder told = new StringBuilder();
        for (int element = 0; element < elements; element++) {
            if (plan.elementOf(element, 6) == Wallplan.ORDERED) {
                told.append(' ').append(element).append('=').append(plan.cancel(element));
            }
        }
        return told.toString();
    }

    private static String ofSettings(Wallplan plan) {
        StringBuilder told = new StringBuilder();
        for (int kind = 0; kind < 3; kind++) {
            told.append(" part ").append(plan.part(kind, 1)).append(" lead ").append(plan.lead(kind, 0));
            for (int other = 0; other < 3; other++) {
                int clearance = plan.clear(kind, other, 0);
                told.append(" clearance ").append(clearance);
                plan.clear(kind, other, clearance);
            }
        }
        return told.toString();
    }

    private static String ofTheNextElement(Wallplan plan) {
        StringBuilder told = new StringBuilder();
        for (int storey = 0; storey < 4; storey++) {
            int added = storey;
            told.append(' ').append(Check.outcome(() -> plan.add(0, added, 0, 0, 0, 0)));
        }
        return told.toString();
    }
}
