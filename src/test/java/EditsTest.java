import java.util.function.Consumer;

/** Promises 1 to 5: a new object, add, move, remove, clear. */
public final class EditsTest {
    private static final Class<?> INDEX = IndexOutOfBoundsException.class;
    private static final Class<?> ARGUMENT = IllegalArgumentException.class;
    private static final Class<?> STATE = IllegalStateException.class;
    private static final Check check = new Check();

    public static void main(String[] args) {
        newObject();
        addAnswersNumbers();
        addRefuses();
        moveShifts();
        moveMerges();
        moveRefuses();
        removeMerges();
        removeRefuses();
        clearTells();
        clearRefuses();
        check.finish("EditsTest");
    }

    private static void newObject() {
        Wallplan plan = new Wallplan();
        check.same("1: the day", plan.day(), 0);
        check.same("1: the revision", plan.revision(), 0);
        check.same("1: no elements", Check.outcome(() -> plan.elementOf(0, 0)), INDEX.getSimpleName());
        for (int kind = 0; kind < 3; kind++) {
            int asked = kind;
            check.same("1: parts of " + kind, plan.parts(kind), 0);
            check.same("1: parts anew of " + kind, plan.partsAnew(kind), 0);
            check.same("1: ordered of " + kind, plan.ordered(kind), 0);
            check.same("1: cells of a part of " + kind, plan.part(kind, 1), 3);
            check.same("1: lead time of " + kind, plan.lead(kind, 0), 5);
            for (int other = 0; other < 3; other++) {
                check.same("1: clearance of " + kind + " and " + other, plan.clear(asked, other, 0), 0);
            }
        }
        for (int storey = 0; storey < 4; storey++) {
            check.same("1: locked " + storey, plan.isLocked(storey), false);
            check.same("1: clashes on " + storey, plan.clashes(storey), 0);
            check.same("1: kinds on " + storey, plan.kindsAt(storey, 0, 0), 0);
        }
        Wallplan other = new Wallplan();
        plan.add(0, 0, 0, 0, 0, 0);
        check.same("1: objects have nothing in common", other.revision(), 0);
    }

    private static void addAnswersNumbers() {
        Wallplan plan = new Wallplan();
        check.same("2: the first", plan.add(0, 0, 0, 0, 11, 0), 0);
        check.same("2: the second", plan.add(2, 3, 11, 11, 11, 0), 1);
        check.same("2: one cell, on another", plan.add(1, 0, 3, 0, 3, 0), 2);
        check.same("2: the revision", plan.revision(), 3);
        int[] due = {2, 3, 11, 11, 11, 0, Wallplan.DRAWN, 2, 2, 12};
        for (int what = 0; what < due.length; what++) {
            check.same("2: elementOf(1, " + what + ")", plan.elementOf(1, what), due[what]);
        }
        check.same("2: a REMOVED one goes", plan.remove(0, 3, 2), true);
        check.same("2: its number is not used again", plan.add(1, 0, 3, 0, 3, 0), 3);
        check.same("2: the last change", plan.elementOf(3, 7), 5);
    }

    private static void addRefuses() {
        Consumer<Wallplan> some = Situations::someOfEach;
        int[] wrongTrades = {-1, 3, Integer.MIN_VALUE, Integer.MAX_VALUE};
        for (int trade : wrongTrades) {
            check.refused("2: trade " + trade, some, INDEX, p -> p.add(trade, 0, 0, 0, 0, 0));
        }
        int[] wrongStoreys = {-1, 4, Integer.MIN_VALUE, Integer.MAX_VALUE};
        for (int storey : wrongStoreys) {
            check.refused("2: storey " + storey, some, INDEX, p -> p.add(0, storey, 0, 0, 0, 0));
        }
        int[] wrongCells = {-1, 12, Integer.MIN_VALUE, Integer.MAX_VALUE};
        for (int cell : wrongCells) {
            check.refused("2: fromX " + cell, some, ARGUMENT, p -> p.add(0, 0, cell, 0, 0, 0));
            check.refused("2: fromY " + cell, some, ARGUMENT, p -> p.add(0, 0, 0, cell, 0, 0));
            check.refused("2: toX " + cell, some, ARGUMENT, p -> p.add(0, 0, 0, 0, cell, 0));
            check.refused("2: toY " + cell, some, ARGUMENT, p -> p.add(0, 0, 0, 0, 0, cell));
            check.refused("2: both x " + cell, some, ARGUMENT, p -> p.add(0, 0, cell, 0, cell, 0));
        }
        check.refused("2: no column or row", some, ARGUMENT, p -> p.add(0, 0, 0, 0, 1, 1));
        check.refused("2: a locked storey", some, STATE, p -> p.add(0, 3, 5, 5, 5, 5));
        check.refused("2: no trade ahead of a cell", some, INDEX, p -> p.add(3, 3, 12, 0, 0, 0));
        check.refused("2: no storey ahead of a cell", some, INDEX, p -> p.add(0, 4, 12, 0, 0, 0));
        check.refused("2: a cell ahead of the lock", some, ARGUMENT, p -> p.add(0, 3, 12, 0, 0, 0));
        check.refused("2: no row ahead of the lock", some, ARGUMENT, p -> p.add(0, 3, 0, 0, 1, 1));
        Wallplan full = new Wallplan();
        forty(full);
        check.same("2: the last of forty", full.elementOf(39, 7), 40);
        check.refused("2: there are 40", EditsTest::forty, STATE, p -> p.add(0, 1, 0, 0, 0, 0));
        check.refused("2: a cell ahead of the 40", EditsTest::forty, ARGUMENT, p -> p.add(0, 1, 0, 0, 0, 12));
        check.refused("2: a storey ahead of the 40", EditsTest::forty, INDEX, p -> p.add(0, 4, 0, 0, 0, 0));
    }

    /** Forty elements, one of them REMOVED: that one is still an element. */
    private static void forty(Wallplan plan) {
        for (int number = 0; number < 40; number++) {
            plan.add(number % 3, number % 4, number % 12, 3, number % 12, 7);
        }
        plan.remove(0, 40, 17);
    }

    private static void moveShifts() {
        Wallplan plan = new Wallplan();
        plan.add(1, 2, 3, 5, 3, 3);
        check.same("3: a move", plan.move(1, 1, 0, 2, -3), true);
        int[] due = {1, 2, 5, 2, 5, 0, Wallplan.DRAWN, 2, 1, 3};
        for (int what = 0; what < due.length; what++) {
            check.same("3: elementOf(0, " + what + ")", plan.elementOf(0, what), due[what]);
        }
        check.same("3: the revision", plan.revision(), 2);
        check.same("3: by nothing", plan.move(2, 2, 0, 0, 0), true);
        check.same("3: the revision is 1 more by nothing too", plan.revision(), 3);
        check.same("3: changed last by nothing", plan.elementOf(0, 7), 3);
        check.same("3: who moved it by nothing", plan.elementOf(0, 8), 2);
        check.same("3: its kind stays", plan.elementOf(0, 0), 1);
        Wallplan wide = new Wallplan();
        wide.add(0, 0, 0, 11, 0, 11);
        check.same("3: from edge to edge", wide.move(0, 1, 0, 11, -11), true);
        check.same("3: and back", wide.move(0, 1, 0, -11, 11), true);
        check.same("3: x then", wide.elementOf(0, 2), 0);
        check.same("3: y then", wide.elementOf(0, 5), 11);
    }

    /** At revision 3, trade 1 changed element 0 last, at 3; element 1 was changed at 2. */
    private static void twoElements(Wallplan plan) {
        plan.add(0, 0, 4, 4, 6, 4);
        plan.add(2, 0, 8, 8, 8, 8);
        plan.move(1, 2, 0, 1, 0);
    }

    private static void moveMerges() {
        Consumer<Wallplan> two = EditsTest::twoElements;
        check.changesNothing("3: an edit that is not taken", two,
            p -> check.same("3: a higher trade from behind", p.move(2, 2, 0, 1, 0), false));
        check.changesNothing("3: one from the revision 0", two,
            p -> check.same("3: a higher trade from far behind", p.move(2, 0, 0, 0, 0), false));
        taken("3: a higher trade from the last change", p -> p.move(2, 3, 0, 0, 1), 0, 2);
        taken("3: a lower trade from behind", p -> p.move(0, 0, 0, 0, 1), 0, 0);
        taken("3: the same trade from behind", p -> p.move(1, 0, 0, 0, 1), 0, 1);
        taken("3: another element from its last change", p -> p.move(2, 2, 1, 0, 1), 1, 2);
        taken("3: another element by a lower trade", p -> p.move(1, 1, 1, 0, 1), 1, 1);
        Wallplan plan = new Wallplan();
        plan.add(0, 0, 4, 4, 6, 4);
        check.same("3: the adding is a change too", plan.move(1, 0, 0, 1, 0), false);
        check.same("3: and so by the next trade", plan.move(2, 0, 0, 1, 0), false);
        plan.move(2, 1, 0, 1, 0);
        check.same("3: the trade that changed it last counts, not its kind", plan.move(1, 0, 0, 1, 0), true);
    }

    private static void taken(String what, Consumer<Wallplan> edit, int element, int trade) {
        Wallplan plan = new Wallplan();
        twoElements(plan);
        int y = plan.elementOf(element, 3);
        edit.accept(plan);
        check.same(what + ": y", plan.elementOf(element, 3), y + 1);
        check.same(what + ": the revision", plan.revision(), 4);
        check.same(what + ": its revision", plan.elementOf(element, 7), 4);
        check.same(what + ": its trade", plan.elementOf(element, 8), trade);
    }

    private static void moveRefuses() {
        Consumer<Wallplan> some = Situations::someOfEach;
        int[] wrongTrades = {-1, 3, Integer.MIN_VALUE, Integer.MAX_VALUE};
        for (int trade : wrongTrades) {
            check.refused("3: trade " + trade, some, INDEX, p -> p.move(trade, 0, 1, 0, 0));
        }
        int[] wrongElements = {-1, 5, 39, 40, Integer.MIN_VALUE, Integer.MAX_VALUE};
        for (int element : wrongElements) {
            check.refused("3: element " + element, some, INDEX, p -> p.move(0, 0, element, 0, 0));
        }
        int[] wrongBases = {-1, 7, Integer.MIN_VALUE, Integer.MAX_VALUE};
        for (int base : wrongBases) {
            check.refused("3: base " + base, some, ARGUMENT, p -> p.move(1, base, 1, 0, 0));
        }
        int[] wrongSteps = {-12, 12, Integer.MIN_VALUE, Integer.MAX_VALUE};
        for (int by : wrongSteps) {
            check.refused("3: byX " + by, some, ARGUMENT, p -> p.move(1, 6, 1, by, 0));
            check.refused("3: byY " + by, some, ARGUMENT, p -> p.move(1, 6, 1, 0, by));
        }
        check.refused("3: out at the right", some, ARGUMENT, p -> p.move(1, 6, 1, 1, 0));
        check.refused("3: out at the end by y", some, ARGUMENT, p -> p.move(1, 6, 1, 0, 3));
        check.refused("3: out at the start by y", some, ARGUMENT, p -> p.move(1, 6, 1, 0, -5));
        check.refused("3: out, though not taken", some, ARGUMENT, p -> p.move(2, 0, 1, 1, 0));
        check.refused("3: ORDERED", some, STATE, p -> p.move(0, 6, 0, 0, 0));
        check.refused("3: DELIVERED", some, STATE, p -> p.move(2, 6, 4, 0, 0));
        check.refused("3: BUILT", some, STATE, p -> p.move(2, 6, 2, 1, 0));
        check.refused("3: REMOVED", some, STATE, p -> p.move(1, 6, 3, 0, 0));
        check.refused("3: BUILT, though not taken", some, STATE, p -> p.move(2, 0, 3, 0, 0));
        check.refused("3: no trade ahead of a base", some, INDEX, p -> p.move(3, 7, 1, 12, 0));
        check.refused("3: no element ahead of a base", some, INDEX, p -> p.move(0, 7, 5, 12, 0));
        check.refused("3: a base ahead of the state", some, ARGUMENT, p -> p.move(0, 7, 0, 0, 0));
        check.refused("3: leaving ahead of ORDERED", some, ARGUMENT, p -> p.move(0, 6, 0, 0, -3));
        check.refused("3: leaving ahead of REMOVED", some, ARGUMENT, p -> p.move(1, 6, 3, 7, 0));
    }

    private static void removeMerges() {
        int[][] edits = {{0, 0}, {1, 0}, {2, 0}, {2, 2}, {2, 3}, {0, 3}};
        for (int[] edit : edits) {
            String what = "4: trade " + edit[0] + " from " + edit[1];
            Wallplan plan = new Wallplan();
            twoElements(plan);
            check.same(what, plan.remove(edit[0], edit[1], 0), true);
            int[] due = {0, 0, 5, 4, 7, 4, Wallplan.REMOVED, 4, edit[0], 3};
            for (int tell = 0; tell < due.length; tell++) {
                check.same(what + ": elementOf(0, " + tell + ")", plan.elementOf(0, tell), due[tell]);
            }
            check.same(what + ": the revision", plan.revision(), 4);
            check.same(what + ": the other one", plan.elementOf(1, 6), Wallplan.DRAWN);
            check.same(what + ": parts", plan.parts(0), 0);
        }
    }

    private static void removeRefuses() {
        Consumer<Wallplan> some = Situations::someOfEach;
        int[] wrongTrades = {-1, 3, Integer.MIN_VALUE, Integer.MAX_VALUE};
        for (int trade : wrongTrades) {
            check.refused("4: trade " + trade, some, INDEX, p -> p.remove(trade, 0, 1));
        }
        int[] wrongElements = {-1, 5, 39, 40, Integer.MIN_VALUE, Integer.MAX_VALUE};
        for (int element : wrongElements) {
            check.refused("4: element " + element, some, INDEX, p -> p.remove(0, 0, element));
        }
        int[] wrongBases = {-1, 7, Integer.MIN_VALUE, Integer.MAX_VALUE};
        for (int base : wrongBases) {
            check.refused("4: base " + base, some, ARGUMENT, p -> p.remove(1, base, 1));
        }
        check.refused("4: ORDERED", some, STATE, p -> p.remove(0, 6, 0));
        check.refused("4: DELIVERED", some, STATE, p -> p.remove(2, 6, 4));
        check.refused("4: BUILT", some, STATE, p -> p.remove(2, 6, 2));
        check.refused("4: REMOVED", some, STATE, p -> p.remove(1, 6, 3));
        check.refused("4: no trade ahead of a base", some, INDEX, p -> p.remove(3, 7, 1));
        check.refused("4: no element ahead of a base", some, INDEX, p -> p.remove(0, -1, 5));
        check.refused("4: a base ahead of the state", some, ARGUMENT, p -> p.remove(0, 7, 0));
    }

    private static void clearTells() {
        for (int kind = 0; kind < 3; kind++) {
            for (int other = 0; other < 3; other++) {
                String what = "5: " + kind + " and " + other;
                Wallplan plan = new Wallplan();
                check.same(what + " at first", plan.clear(kind, other, 3), 0);
                check.same(what + " the other way round", plan.clear(other, kind, 1), 3);
                check.same(what + " again", plan.clear(kind, other, 0), 1);
                check.same(what + " at last", plan.clear(kind, other, 2), 0);
                for (int one = 0; one < 3; one++) {
                    for (int two = one; two < 3; two++) {
                        boolean told = Math.min(kind, other) == one && Math.max(kind, other) == two;
                        check.same(what + " then " + one + " and " + two, plan.clear(one, two, 0), told ? 2 : 0);
                    }
                }
            }
        }
    }

    private static void clearRefuses() {
        Consumer<Wallplan> some = Situations::someOfEach;
        int[] wrongKinds = {-1, 3, Integer.MIN_VALUE, Integer.MAX_VALUE};
        for (int kind : wrongKinds) {
            check.refused("5: kind " + kind, some, INDEX, p -> p.clear(kind, 0, 1));
            check.refused("5: other " + kind, some, INDEX, p -> p.clear(0, kind, 1));
            check.refused("5: both " + kind, some, INDEX, p -> p.clear(kind, kind, 1));
            check.refused("5: kind " + kind + " ahead of cells", some, INDEX, p -> p.clear(kind, 0, 4));
            check.refused("5: other " + kind + " ahead of cells", some, INDEX, p -> p.clear(0, kind, 4));
        }
        int[] wrongCells = {-1, 4, Integer.MIN_VALUE, Integer.MAX_VALUE};
        for (int cells : wrongCells) {
            check.refused("5: cells " + cells, some, ARGUMENT, p -> p.clear(0, 1, cells));
        }
    }
}
