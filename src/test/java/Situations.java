import java.util.function.Consumer;

/** Histories of calls on a new object, that several tests begin from. */
final class Situations {
    private Situations() {
    }

    static void empty(Wallplan plan) {
        plan.day();
    }

    /**
     * Element 0 is ORDERED, 1 DRAWN, 2 BUILT, 3 REMOVED, 4 DELIVERED; storey 3 is locked with 2.
     * It is the day 3, and the revision is 6.
     */
    static void someOfEach(Wallplan plan) {
        plan.add(0, 0, 2, 2, 6, 2);
        plan.add(1, 0, 11, 4, 11, 9);
        plan.add(2, 3, 0, 0, 0, 11);
        plan.add(1, 0, 5, 5, 5, 5);
        plan.add(2, 0, 1, 7, 3, 7);
        plan.remove(1, 4, 3);
        plan.lead(2, 0);
        plan.order(2);
        plan.build(2);
        plan.inspect(3);
        plan.order(4);
        plan.order(0);
        plan.pass(3);
        plan.clear(0, 1, 2);
        plan.clear(1, 2, 3);
        plan.part(1, 4);
    }

    /** So many elements of one cell, of all kinds and on all storeys, all in the same state. */
    static Consumer<Wallplan> elements(int count, int state) {
        return plan -> {
            for (int kind = 0; kind < 3; kind++) {
                plan.lead(kind, state == Wallplan.ORDERED ? 9 : 0);
            }
            for (int number = 0; number < count; number++) {
                plan.add(number % 3, number % 4, number % 12, 5, number % 12, 5);
                bringTo(plan, number, state);
            }
        };
    }

    private static void bringTo(Wallplan plan, int number, int state) {
        if (state == Wallplan.REMOVED) {
            plan.remove(0, 0, number);
            return;
        }
        if (state != Wallplan.DRAWN) {
            plan.order(number);
        }
        if (state == Wallplan.BUILT) {
            plan.build(number);
        }
    }

    /** The day 500, with an order that is DELIVERED on it and one that never will be. */
    static void lastDay(Wallplan plan) {
        plan.add(0, 1, 3, 3, 8, 3);
        plan.add(1, 1, 4, 4, 4, 9);
        waitUntil(plan, 495);
        plan.order(0);
        plan.lead(1, 6);
        plan.order(1);
        waitUntil(plan, 500);
    }

    /** Lets days pass, at most a hundred at once, until it is this day. */
    static void waitUntil(Wallplan plan, int day) {
        for (int step = 0; step < 5 && plan.day() < day; step++) {
            plan.pass(Math.min(100, day - plan.day()));
        }
    }

    /** Brings a new storey's only element, of the wires, to BUILT, and locks the storey with it. */
    static void lockWithOne(Wallplan plan, int storey) {
        int before = plan.lead(2, 0);
        int number = plan.add(2, storey, 6, 6, 6, 6);
        plan.order(number);
        plan.build(number);
        plan.inspect(storey);
        plan.lead(2, before);
    }
}
