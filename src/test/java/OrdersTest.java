import java.util.function.Consumer;

/** Promises 6 to 12: part, lead, order, cancel, build, inspect, pass. */
public final class OrdersTest {
    private static final Class<?> INDEX = IndexOutOfBoundsException.class;
    private static final Class<?> ARGUMENT = IllegalArgumentException.class;
    private static final Class<?> STATE = IllegalStateException.class;
    private static final int[] WRONG_ELEMENTS = {-1, 5, 39, 40, Integer.MIN_VALUE, Integer.MAX_VALUE};
    private static final int[] WRONG_KINDS = {-1, 3, Integer.MIN_VALUE, Integer.MAX_VALUE};
    private static final Check check = new Check();

    public static void main(String[] args) {
        partTells();
        leadTells();
        settingsRefuse();
        orderCountsParts();
        orderTakesTheLeadTimeOfThen();
        orderRefuses();
        cancelTellsDaysLeft();
        cancelRefuses();
        buildWantsNoClash();
        buildRefuses();
        inspectPasses();
        inspectFails();
        inspectRefuses();
        passCountsDays();
        passRefuses();
        check.finish("OrdersTest");
    }

    private static void partTells() {
        for (int kind = 0; kind < 3; kind++) {
            Wallplan plan = new Wallplan();
            check.same("6: at first", plan.part(kind, 12), 3);
            check.same("6: then", plan.part(kind, 1), 12);
            check.same("6: at last", plan.part(kind, 7), 1);
            check.same("6: another kind", plan.part((kind + 1) % 3, 3), 3);
            check.same("6: one more", plan.part((kind + 2) % 3, 3), 3);
        }
    }

    private static void leadTells() {
        for (int kind = 0; kind < 3; kind++) {
            Wallplan plan = new Wallplan();
            check.same("7: at first", plan.lead(kind, 100), 5);
            check.same("7: then", plan.lead(kind, 0), 100);
            check.same("7: at last", plan.lead(kind, 7), 0);
            check.same("7: another kind", plan.lead((kind + 1) % 3, 5), 5);
            check.same("7: one more", plan.lead((kind + 2) % 3, 5), 5);
        }
    }

    private static void settingsRefuse() {
        Consumer<Wallplan> some = Situations::someOfEach;
        for (int kind : WRONG_KINDS) {
            check.refused("6: kind " + kind, some, INDEX, p -> p.part(kind, 2));
            check.refused("6: kind " + kind + " ahead of cells", some, INDEX, p -> p.part(kind, 0));
            check.refused("7: kind " + kind, some, INDEX, p -> p.lead(kind, 2));
            check.refused("7: kind " + kind + " ahead of days", some, INDEX, p -> p.lead(kind, -1));
        }
        int[] wrongCells = {-1, 0, 13, Integer.MIN_VALUE, Integer.MAX_VALUE};
        for (int cells : wrongCells) {
            check.refused("6: cells " + cells, some, ARGUMENT, p -> p.part(1, cells));
        }
        int[] wrongDays = {-1, 101, Integer.MIN_VALUE, Integer.MAX_VALUE};
        for (int days : wrongDays) {
            check.refused("7: days " + days, some, ARGUMENT, p -> p.lead(1, days));
        }
    }

    private static void orderCountsParts() {
        for (int cells = 1; cells <= 12; cells++) {
            for (int size = 1; size <= 12; size++) {
                Wallplan plan = new Wallplan();
                plan.part(1, size);
                plan.add(1, 2, 4, cells - 1, 4, 0);
                int due = cells % size == 0 ? cells / size : cells / size + 1;
                check.same("8: " + cells + " cells by " + size, plan.order(0), due);
                check.same("8: its state", plan.elementOf(0, 6), Wallplan.ORDERED);
                check.same("8: no edit", plan.revision(), 1);
            }
        }
    }

    private static void orderTakesTheLeadTimeOfThen() {
        Wallplan plan = new Wallplan();
        plan.add(0, 0, 0, 0, 3, 0);
        plan.add(0, 0, 0, 2, 3, 2);
        plan.add(1, 0, 0, 4, 3, 4);
        check.same("8: the kind's parts", plan.order(0), 2);
        plan.lead(0, 0);
        check.same("8: still ORDERED", plan.elementOf(0, 6), Wallplan.ORDERED);
        plan.order(1);
        check.same("8: DELIVERED at once", plan.elementOf(1, 6), Wallplan.DELIVERED);
        plan.pass(2);
        plan.lead(1, 3);
        plan.order(2);
        plan.lead(0, 100);
        plan.lead(1, 100);
        plan.pass(2);
        check.same("8: 4 of 5 days", plan.elementOf(0, 6), Wallplan.ORDERED);
        check.same("8: 2 of 3 days", plan.elementOf(2, 6), Wallplan.ORDERED);
        plan.pass(1);
        check.same("8: 5 of 5 days", plan.elementOf(0, 6), Wallplan.DELIVERED);
        check.same("8: 3 of 3 days", plan.elementOf(2, 6), Wallplan.DELIVERED);
    }

    private static void orderRefuses() {
        Consumer<Wallplan> some = Situations::someOfEach;
        for (int element : WRONG_ELEMENTS) {
            check.refused("8: element " + element, some, INDEX, p -> p.order(element));
        }
        check.refused("8: ORDERED", some, STATE, p -> p.order(0));
        check.refused("8: BUILT", some, STATE, p -> p.order(2));
        check.refused("8: REMOVED", some, STATE, p -> p.order(3));
        check.refused("8: DELIVERED", some, STATE, p -> p.order(4));
    }

    private static void cancelTellsDaysLeft() {
        Wallplan plan = new Wallplan();
        plan.add(0, 0, 0, 0, 3, 0);
        plan.order(0);
        check.same("9: at once", plan.cancel(0), 5);
        check.same("9: DRAWN again", plan.elementOf(0, 6), Wallplan.DRAWN);
        check.same("9: nothing ordered", plan.ordered(0), 0);
        check.same("9: no edit", plan.revision(), 1);
        check.same("9: it can be moved", plan.move(0, 1, 0, 1, 1), true);
        plan.pass(10);
        check.same("9: the order is off", plan.elementOf(0, 6), Wallplan.DRAWN);
        plan.lead(0, 100);
        plan.order(0);
        plan.lead(0, 1);
        plan.pass(99);
        check.same("9: the last day", plan.cancel(0), 1);
        plan.order(0);
        check.same("9: the new lead time", plan.cancel(0), 1);
        plan.order(0);
        plan.pass(1);
        check.same("9: then DELIVERED", plan.elementOf(0, 6), Wallplan.DELIVERED);
    }

    private static void cancelRefuses() {
        Consumer<Wallplan> some = Situations::someOfEach;
        for (int element : WRONG_ELEMENTS) {
            check.refused("9: element " + element, some, INDEX, p -> p.cancel(element));
        }
        check.refused("9: DRAWN", some, STATE, p -> p.cancel(1));
        check.refused("9: BUILT", some, STATE, p -> p.cancel(2));
        check.refused("9: REMOVED", some, STATE, p -> p.cancel(3));
        check.refused("9: DELIVERED", some, STATE, p -> p.cancel(4));
    }

    /** Element 0 is DELIVERED and clashes with the DRAWN element 1; 2, of another kind, is DELIVERED. */
    private static void clashing(Wallplan plan) {
        plan.lead(0, 0);
        plan.lead(2, 0);
        plan.add(0, 1, 0, 0, 5, 0);
        plan.add(1, 1, 3, 1, 3, 6);
        plan.add(2, 1, 9, 9, 9, 9);
        plan.clear(0, 1, 2);
        plan.order(0);
        plan.order(2);
    }

    private static void buildWantsNoClash() {
        check.changesNothing("10: a build that clashes", OrdersTest::clashing,
            p -> check.same("10: it clashes", p.build(0), false));
        Wallplan plan = new Wallplan();
        clashing(plan);
        check.same("10: another one of the storey", plan.build(2), true);
        check.same("10: its state", plan.elementOf(2, 6), Wallplan.BUILT);
        check.same("10: no edit", plan.revision(), 3);
        plan.clear(0, 1, 1);
        check.same("10: clear of it", plan.build(0), true);
        plan.clear(0, 1, 2);
        check.same("10: BUILT it stays", plan.elementOf(0, 6), Wallplan.BUILT);
        Wallplan other = new Wallplan();
        clashing(other);
        other.lead(1, 0);
        other.order(1);
        check.same("10: the other one of the pair", other.build(1), false);
        Wallplan fewer = new Wallplan();
        clashing(fewer);
        fewer.remove(2, 0, 1);
        check.same("10: a REMOVED one is in no way", fewer.build(0), true);
    }

    private static void buildRefuses() {
        Consumer<Wallplan> some = Situations::someOfEach;
        for (int element : WRONG_ELEMENTS) {
            check.refused("10: element " + element, some, INDEX, p -> p.build(element));
        }
        check.refused("10: ORDERED", some, STATE, p -> p.build(0));
        check.refused("10: DRAWN", some, STATE, p -> p.build(1));
        check.refused("10: BUILT", some, STATE, p -> p.build(2));
        check.refused("10: REMOVED", some, STATE, p -> p.build(3));
        check.refused("10: DRAWN, that clashes", OrdersTest::clashing, STATE, p -> p.build(1));
    }

    /** Storey 2 has two BUILT elements, a REMOVED one, and clearances with which it clashed. */
    private static void finished(Wallplan plan) {
        plan.lead(0, 0);
        plan.add(0, 2, 0, 0, 5, 0);
        plan.add(0, 2, 0, 2, 5, 2);
        plan.add(1, 2, 3, 3, 3, 6);
        plan.add(1, 1, 3, 3, 3, 6);
        plan.clear(0, 1, 3);
        plan.remove(1, 3, 2);
        plan.order(0);
        plan.order(1);
        plan.build(0);
        plan.build(1);
    }

    private static void inspectPasses() {
        Wallplan plan = new Wallplan();
        finished(plan);
        check.same("11: not locked yet", plan.isLocked(2), false);
        check.same("11: passes", plan.inspect(2), true);
        for (int storey = 0; storey < 4; storey++) {
            check.same("11: locked " + storey, plan.isLocked(storey), storey == 2);
        }
        check.same("11: no edit", plan.revision(), 5);
        plan.clear(0, 0, 3);
        check.same("11: they clash later", plan.clashes(2), 1);
        check.same("11: locked for good", plan.isLocked(2), true);
        check.refused("11: nothing can be added there", p -> {
            finished(p);
            p.inspect(2);
        }, STATE, p -> p.add(2, 2, 11, 11, 11, 11));
        check.same("11: another storey is open", plan.add(2, 3, 11, 11, 11, 11), 4);
    }

    private static void inspectFails() {
        fails("no elements", p -> { }, 0);
        fails("none but REMOVED ones", p -> {
            p.add(0, 0, 0, 0, 0, 0);
            p.remove(0, 1, 0);
        }, 0);
        fails("one that is DRAWN", p -> {
            finished(p);
            p.add(2, 2, 11, 11, 11, 11);
        }, 2);
        fails("one that is ORDERED", p -> {
            finished(p);
            p.add(2, 2, 11, 11, 11, 11);
            p.order(4);
        }, 2);
        fails("one that is DELIVERED", p -> {
            finished(p);
            p.add(2, 2, 11, 11, 11, 11);
            p.order(4);
            p.pass(5);
        }, 2);
        fails("the first of all that is DRAWN", p -> {
            p.lead(0, 0);
            p.add(0, 2, 11, 11, 11, 11);
            p.add(0, 2, 0, 0, 5, 0);
            p.order(1);
            p.build(1);
        }, 2);
        fails("two that clash", p -> {
            finished(p);
            p.clear(0, 0, 3);
        }, 2);
        fails("another storey's elements", OrdersTest::finished, 0);
    }

    private static void fails(String what, Consumer<Wallplan> history, int storey) {
        check.changesNothing("11: " + what, history,
            p -> check.same("11: " + what, p.inspect(storey), false));
    }

    private static void inspectRefuses() {
        Consumer<Wallplan> some = Situations::someOfEach;
        int[] wrongStoreys = {-1, 4, Integer.MIN_VALUE, Integer.MAX_VALUE};
        for (int storey : wrongStoreys) {
            check.refused("11: storey " + storey, some, INDEX, p -> p.inspect(storey));
        }
        check.refused("11: locked", some, STATE, p -> p.inspect(3));
    }

    private static void passCountsDays() {
        Wallplan plan = new Wallplan();
        plan.add(0, 0, 0, 0, 0, 0);
        plan.lead(0, 100);
        check.same("12: one day", plan.pass(1), 1);
        check.same("12: a hundred", plan.pass(100), 101);
        plan.order(0);
        check.same("12: 99 more", plan.pass(99), 200);
        check.same("12: not yet", plan.elementOf(0, 6), Wallplan.ORDERED);
        check.same("12: past the delivery", plan.pass(100), 300);
        check.same("12: DELIVERED", plan.elementOf(0, 6), Wallplan.DELIVERED);
        check.same("12: more", plan.pass(100), 400);
        check.same("12: to the last day", plan.pass(100), 500);
        check.same("12: the day", plan.day(), 500);
        check.same("12: no edit", plan.revision(), 1);
        check.same("12: no day more", Check.outcome(() -> plan.pass(1)), STATE.getSimpleName());
    }

    /** Day 450, with an order that would be DELIVERED on the day 501. */
    private static void late(Wallplan plan) {
        plan.add(0, 0, 0, 0, 0, 0);
        plan.lead(0, 51);
        plan.pass(100);
        plan.pass(100);
        plan.pass(100);
        plan.pass(100);
        plan.pass(50);
        plan.order(0);
    }

    private static void passRefuses() {
        Consumer<Wallplan> some = Situations::someOfEach;
        int[] wrongDays = {-1, 0, 101, Integer.MIN_VALUE, Integer.MAX_VALUE};
        for (int days : wrongDays) {
            check.refused("12: days " + days, some, ARGUMENT, p -> p.pass(days));
            check.refused("12: days " + days + " ahead of the 500", OrdersTest::late, ARGUMENT, p -> p.pass(days));
        }
        check.refused("12: above 500", OrdersTest::late, STATE, p -> p.pass(51));
        check.refused("12: far above 500", OrdersTest::late, STATE, p -> p.pass(100));
        Wallplan plan = new Wallplan();
        late(plan);
        check.same("12: 500 is not above", plan.pass(50), 500);
        check.same("12: a day too early", plan.elementOf(0, 6), Wallplan.ORDERED);
        check.same("12: what is left", plan.cancel(0), 1);
    }
}
