import java.util.function.Consumer;

/** Promises 13 to 23: day, revision, elementOf, clashes, parts lists, kindsAt, isLocked. */
public final class AsksTest {
    private static final Class<?> INDEX = IndexOutOfBoundsException.class;
    private static final Class<?> ARGUMENT = IllegalArgumentException.class;
    private static final int[] WRONG_ELEMENTS = {-1, 5, 39, 40, Integer.MIN_VALUE, Integer.MAX_VALUE};
    private static final int[] WRONG_KINDS = {-1, 3, Integer.MIN_VALUE, Integer.MAX_VALUE};
    private static final int[] WRONG_STOREYS = {-1, 4, Integer.MIN_VALUE, Integer.MAX_VALUE};
    private static final Check check = new Check();

    public static void main(String[] args) {
        dayAndRevision();
        elementOfTells();
        clashIsNearerThanTheClearance();
        clashOfCrossingRows();
        clashNeedsTwoOfAStorey();
        clashesCountsPairs();
        stoppedTrades();
        partsFollowTheModel();
        partsAnewIsTheSame();
        orderedCounts();
        kindsAtCells();
        lockedStoreys();
        asksRefuse();
        asksChangeNothing();
        check.finish("AsksTest");
    }

    private static void dayAndRevision() {
        Wallplan plan = new Wallplan();
        plan.add(0, 0, 0, 0, 0, 0);
        plan.pass(7);
        check.same("13: the day", plan.day(), 7);
        check.same("14: an add", plan.revision(), 1);
        plan.move(0, 1, 0, 1, 0);
        check.same("14: a move", plan.revision(), 2);
        plan.move(1, 0, 0, 1, 0);
        check.same("14: a move that is not taken", plan.revision(), 2);
        plan.remove(0, 0, 0);
        check.same("14: a removal", plan.revision(), 3);
        plan.pass(3);
        check.same("13: the day then", plan.day(), 10);
        check.same("14: days are no edits", plan.revision(), 3);
    }

    private static void elementOfTells() {
        Wallplan plan = new Wallplan();
        Situations.someOfEach(plan);
        int[][] due = {
            {0, 0, 2, 2, 6, 2, Wallplan.ORDERED, 1, 0, 5},
            {1, 0, 11, 4, 11, 9, Wallplan.DRAWN, 2, 1, 6},
            {2, 3, 0, 0, 0, 11, Wallplan.BUILT, 3, 2, 12},
            {1, 0, 5, 5, 5, 5, Wallplan.REMOVED, 6, 1, 1},
            {2, 0, 1, 7, 3, 7, Wallplan.DELIVERED, 5, 2, 3},
        };
        for (int element = 0; element < due.length; element++) {
            for (int what = 0; what < 10; what++) {
                String call = "15: elementOf(" + element + ", " + what + ")";
                check.same(call, plan.elementOf(element, what), due[element][what]);
            }
        }
        Wallplan backward = new Wallplan();
        backward.add(0, 0, 9, 3, 2, 3);
        check.same("15: the first cell stays the first", backward.elementOf(0, 2), 9);
        check.same("15: the last cell stays the last", backward.elementOf(0, 4), 2);
        check.same("15: cells backward", backward.elementOf(0, 9), 8);
    }

    /** For each clearance and distance: ahead, behind, above, below and across a corner. */
    private static void clashIsNearerThanTheClearance() {
        int[][] ways = {{1, 0}, {-1, 0}, {0, 1}, {0, -1}, {1, 1}, {-1, 1}, {1, -1}, {-1, -1}};
        for (int clearance = 0; clearance <= 3; clearance++) {
            for (int distance = 0; distance <= 4; distance++) {
                for (int[] way : ways) {
                    Wallplan plan = new Wallplan();
                    plan.add(0, 0, 5, 5, 5, 5);
                    int x = 5 + way[0] * distance;
                    int y = 5 + way[1] * distance;
                    plan.add(2, 0, x, y, x, y);
                    plan.clear(0, 2, clearance);
                    String what = "16: " + clearance + " to " + x + " " + y;
                    check.same(what, plan.clash(0, 1), distance < clearance);
                    check.same(what + " the other way round", plan.clash(1, 0), distance < clearance);
                }
            }
        }
    }

    private static void clashOfCrossingRows() {
        Wallplan plan = new Wallplan();
        plan.add(0, 1, 0, 5, 11, 5);
        plan.add(0, 1, 5, 11, 5, 0);
        plan.add(0, 1, 8, 2, 11, 2);
        plan.clear(0, 0, 1);
        check.same("16: crossing far from their ends", plan.clash(0, 1), true);
        check.same("16: no cell in common", plan.clash(0, 2), false);
        plan.clear(0, 0, 3);
        check.same("16: 3 apart by y, and 3 by x", plan.clash(0, 2) || plan.clash(1, 2), false);
        plan.move(0, 3, 2, -1, 0);
        check.same("16: 2 apart by x", plan.clash(1, 2), true);
        check.same("16: still 3 by y", plan.clash(0, 2), false);
    }

    private static void clashNeedsTwoOfAStorey() {
        Wallplan plan = new Wallplan();
        plan.add(0, 1, 0, 5, 11, 5);
        plan.add(0, 2, 0, 5, 11, 5);
        plan.add(1, 1, 0, 5, 11, 5);
        plan.clear(0, 0, 3);
        check.same("16: not with itself", plan.clash(0, 0), false);
        check.same("16: not on another storey", plan.clash(0, 1), false);
        check.same("16: a clearance of 0, in the same cells", plan.clash(0, 2), false);
        plan.clear(1, 0, 1);
        check.same("16: a clearance of 1", plan.clash(0, 2), true);
        plan.remove(1, 3, 2);
        check.same("16: a REMOVED one clashes with none", plan.clash(0, 2) || plan.clash(2, 0), false);
    }

    /** On storey 2: walls 0 and 1, the pipe 2 near both, the wire 3 far off; wall 4 on storey 0. */
    private static void crowd(Wallplan plan) {
        plan.add(0, 2, 0, 0, 5, 0);
        plan.add(0, 2, 0, 2, 5, 2);
        plan.add(1, 2, 3, 3, 3, 6);
        plan.add(2, 2, 11, 11, 11, 9);
        plan.add(0, 0, 3, 3, 3, 6);
    }

    private static void clashesCountsPairs() {
        Wallplan plan = new Wallplan();
        crowd(plan);
        check.same("17: none at first", plan.clashes(2), 0);
        plan.clear(0, 1, 2);
        check.same("17: one wall and the pipe", plan.clashes(2), 1);
        plan.clear(0, 1, 3);
        check.same("17: one wall still, as the other is 3 off", plan.clashes(2), 1);
        plan.clear(0, 0, 3);
        check.same("17: the walls too", plan.clashes(2), 2);
        plan.move(1, 5, 2, 0, -1);
        check.same("17: all three pairs", plan.clashes(2), 3);
        check.same("17: another storey", plan.clashes(0), 0);
        plan.remove(1, 5, 2);
        check.same("17: the pipe is gone", plan.clashes(2), 1);
        check.same("17: an empty storey", plan.clashes(3), 0);
    }

    private static void stoppedTrades() {
        Wallplan plan = new Wallplan();
        crowd(plan);
        stopped(plan, 2, false, false, false);
        plan.clear(0, 1, 2);
        stopped(plan, 2, true, true, false);
        stopped(plan, 0, false, false, false);
        plan.clear(0, 1, 0);
        plan.clear(0, 0, 3);
        stopped(plan, 2, true, false, false);
        plan.move(2, 5, 1, 0, 9);
        plan.move(2, 5, 1, 6, 0);
        plan.clear(2, 0, 1);
        stopped(plan, 2, true, false, true);
        plan.remove(0, 0, 3);
        stopped(plan, 2, false, false, false);
        Wallplan two = new Wallplan();
        two.add(1, 3, 0, 0, 5, 0);
        two.add(2, 3, 5, 1, 5, 4);
        two.clear(1, 2, 2);
        stopped(two, 3, false, true, true);
    }

    private static void stopped(Wallplan plan, int storey, boolean walls, boolean pipes, boolean wires) {
        check.same("18: walls on " + storey, plan.isStopped(Wallplan.WALL, storey), walls);
        check.same("18: pipes on " + storey, plan.isStopped(Wallplan.PIPE, storey), pipes);
        check.same("18: wires on " + storey, plan.isStopped(Wallplan.WIRE, storey), wires);
    }

    private static void partsFollowTheModel() {
        Wallplan plan = new Wallplan();
        crowd(plan);
        check.same("19: walls", plan.parts(0), 2 + 2 + 2);
        check.same("19: pipes", plan.parts(1), 2);
        check.same("19: wires", plan.parts(2), 1);
        plan.part(0, 4);
        check.same("19: rounded up for each", plan.parts(0), 2 + 2 + 1);
        check.same("19: another kind's parts", plan.parts(1), 2);
        plan.order(0);
        plan.part(0, 5);
        check.same("19: as it is told now, also if ordered", plan.parts(0), 2 + 2 + 1);
        plan.part(0, 1);
        check.same("19: a part a cell", plan.parts(0), 6 + 6 + 4);
        plan.remove(0, 5, 1);
        check.same("19: not the REMOVED ones", plan.parts(0), 6 + 4);
        plan.pass(5);
        check.same("19: a DELIVERED one", plan.parts(0), 6 + 4);
        plan.build(0);
        check.same("19: a BUILT one", plan.parts(0), 6 + 4);
        check.same("20: a BUILT one", plan.partsAnew(0), 6 + 4);
    }

    private static void partsAnewIsTheSame() {
        Wallplan plan = new Wallplan();
        for (int length = 0; length < 12; length++) {
            plan.add(0, length % 4, length, 0, 0, 0);
            plan.add(1, length % 4, length, 11, length, 11 - length);
        }
        plan.add(2, 1, 4, 4, 4, 4);
        plan.order(3);
        plan.remove(0, 25, 5);
        for (int size = 1; size <= 12; size++) {
            plan.part(0, size);
            plan.part(1, size);
            int walls = 0;
            int pipes = 0;
            for (int cells = 1; cells <= 12; cells++) {
                int parts = (cells - 1) / size + 1;
                walls += parts;
                pipes += cells == 3 ? 0 : parts;
            }
            check.same("20: walls by " + size, plan.partsAnew(0), walls);
            check.same("20: pipes by " + size, plan.partsAnew(1), pipes);
            check.same("20: wires", plan.partsAnew(2), 1);
            check.same("19: walls by " + size, plan.parts(0), walls);
            check.same("19: pipes by " + size, plan.parts(1), pipes);
        }
    }

    private static void orderedCounts() {
        Wallplan plan = new Wallplan();
        Situations.someOfEach(plan);
        check.same("21: an ORDERED wall", plan.ordered(0), 2);
        check.same("21: a DRAWN pipe and a REMOVED one", plan.ordered(1), 0);
        check.same("21: a DELIVERED wire and a BUILT one", plan.ordered(2), 1 + 4);
        plan.part(2, 2);
        check.same("21: as it is told now", plan.ordered(2), 2 + 6);
        plan.order(1);
        check.same("21: one more", plan.ordered(1), 2);
        plan.cancel(0);
        check.same("21: cancelled", plan.ordered(0), 0);
    }

    private static void kindsAtCells() {
        Wallplan plan = new Wallplan();
        plan.add(2, 1, 2, 5, 9, 5);
        plan.add(1, 1, 4, 8, 4, 0);
        plan.add(0, 1, 4, 5, 4, 5);
        plan.add(2, 1, 2, 5, 2, 5);
        plan.add(0, 2, 9, 9, 9, 9);
        for (int x = 0; x < 12; x++) {
            for (int y = 0; y < 12; y++) {
                int due = (y == 5 && x >= 2 && x <= 9 ? 4 : 0) | (x == 4 && y <= 8 ? 2 : 0)
                    | (x == 4 && y == 5 ? 1 : 0);
                check.same("22: " + x + " " + y, plan.kindsAt(1, x, y), due);
                check.same("22: storey 2, " + x + " " + y, plan.kindsAt(2, x, y), x == 9 && y == 9 ? 1 : 0);
            }
        }
        Wallplan fewer = new Wallplan();
        fewer.add(2, 1, 2, 5, 9, 5);
        fewer.add(1, 1, 4, 8, 4, 0);
        fewer.remove(0, 0, 0);
        check.same("22: not the REMOVED ones", fewer.kindsAt(1, 4, 5), 2);
        check.same("22: nothing but REMOVED ones", fewer.kindsAt(1, 5, 5), 0);
        fewer.move(1, 3, 1, 3, 0);
        check.same("22: a moved one is gone", fewer.kindsAt(1, 4, 5), 0);
        check.same("22: and elsewhere", fewer.kindsAt(1, 7, 5), 2);
    }

    private static void lockedStoreys() {
        Wallplan plan = new Wallplan();
        Situations.someOfEach(plan);
        for (int storey = 0; storey < 4; storey++) {
            check.same("23: storey " + storey, plan.isLocked(storey), storey == 3);
        }
    }

    private static void asksRefuse() {
        Consumer<Wallplan> some = Situations::someOfEach;
        for (int element : WRONG_ELEMENTS) {
            check.refused("15: element " + element, some, INDEX, p -> p.elementOf(element, 0));
            check.refused("15: element " + element + " ahead of what", some, INDEX, p -> p.elementOf(element, 10));
            check.refused("16: element " + element, some, INDEX, p -> p.clash(element, 0));
            check.refused("16: other " + element, some, INDEX, p -> p.clash(0, element));
            check.refused("16: both " + element, some, INDEX, p -> p.clash(element, element));
        }
        int[] wrongAsks = {-1, 10, Integer.MIN_VALUE, Integer.MAX_VALUE};
        for (int what : wrongAsks) {
            check.refused("15: what " + what, some, ARGUMENT, p -> p.elementOf(0, what));
        }
        for (int storey : WRONG_STOREYS) {
            check.refused("17: storey " + storey, some, INDEX, p -> p.clashes(storey));
            check.refused("18: storey " + storey, some, INDEX, p -> p.isStopped(0, storey));
            check.refused("22: storey " + storey, some, INDEX, p -> p.kindsAt(storey, 0, 0));
            check.refused("22: storey " + storey + " ahead of a cell", some, INDEX, p -> p.kindsAt(storey, 12, -1));
            check.refused("23: storey " + storey, some, INDEX, p -> p.isLocked(storey));
        }
        for (int kind : WRONG_KINDS) {
            check.refused("18: trade " + kind, some, INDEX, p -> p.isStopped(kind, 0));
            check.refused("19: kind " + kind, some, INDEX, p -> p.parts(kind));
            check.refused("20: kind " + kind, some, INDEX, p -> p.partsAnew(kind));
            check.refused("21: kind " + kind, some, INDEX, p -> p.ordered(kind));
        }
        int[] wrongCells = {-1, 12, Integer.MIN_VALUE, Integer.MAX_VALUE};
        for (int cell : wrongCells) {
            check.refused("22: x " + cell, some, ARGUMENT, p -> p.kindsAt(0, cell, 0));
            check.refused("22: y " + cell, some, ARGUMENT, p -> p.kindsAt(0, 0, cell));
        }
    }

    private static void asksChangeNothing() {
        check.changesNothing("13 to 23: asking", Situations::someOfEach, p -> {
            p.day();
            p.revision();
            p.elementOf(0, 6);
            p.clash(0, 1);
            p.clashes(0);
            p.isStopped(0, 0);
            p.parts(0);
            p.partsAnew(0);
            p.ordered(0);
            p.kindsAt(0, 2, 2);
            p.isLocked(0);
        });
    }
}
