import java.util.ArrayList;
import java.util.List;
import java.util.function.BiConsumer;
import java.util.function.Consumer;

/**
 * The ranges in the list of arguments of each promise: the least and the most value are taken, those
 * next to them are refused, and so are the least and the most int, with the exception that the
 * promise names and with all that the calls answer unchanged. Elements are in range by how many
 * there are, so their ranges are looked at with none, one, two, 39 and 40 of them.
 */
public final class RangesTest {
    private static final Class<?> INDEX = IndexOutOfBoundsException.class;
    private static final Class<?> ARGUMENT = IllegalArgumentException.class;
    private static final Class<?> STATE = IllegalStateException.class;
    private static final int[] COUNTS = {1, 2, 39, 40};
    private static final int[] NO_ELEMENTS = {Integer.MIN_VALUE, -1, 0, 1, 39, 40, Integer.MAX_VALUE};
    private static final List<Consumer<Wallplan>> SITUATIONS = List.of(Situations::empty, Situations::someOfEach,
        Situations.elements(40, Wallplan.DRAWN), Situations.elements(40, Wallplan.REMOVED), Situations::lastDay);
    private static final Check check = new Check();

    public static void main(String[] args) {
        add();
        addWithoutRoom();
        move();
        moveSteps();
        remove();
        clear();
        part();
        lead();
        ordersAndBuilding();
        inspect();
        pass();
        dayAndRevision();
        elementOf();
        clash();
        storeysAndKinds();
        kindsAt();
        check.finish("RangesTest");
    }

    private static void range(String what, Consumer<Wallplan> then, int least, int most, Class<?> due,
            BiConsumer<Wallplan, Integer> call) {
        for (int value : new int[] {least, most}) {
            check.allowed(what + " " + value, then, p -> call.accept(p, value));
        }
        for (int value : new int[] {Integer.MIN_VALUE, least - 1, most + 1, Integer.MAX_VALUE}) {
            check.refused(what + " " + value, then, due, p -> call.accept(p, value));
        }
    }

    /** The numbers of elements that are all in this state. */
    private static void elements(String what, int state, BiConsumer<Wallplan, Integer> call) {
        for (int value : NO_ELEMENTS) {
            check.refused(what + " " + value + " of none", Situations::empty, INDEX, p -> call.accept(p, value));
        }
        for (int count : COUNTS) {
            range(what + " of " + count, Situations.elements(count, state), 0, count - 1, INDEX, call);
        }
    }

    private static void add() {
        for (Consumer<Wallplan> then : roomForOne()) {
            range("2: trade", then, 0, 2, INDEX, (p, v) -> p.add(v, 0, 5, 5, 5, 5));
            range("2: storey", then, 0, 3, INDEX, (p, v) -> p.add(1, v, 5, 5, 5, 5));
            range("2: fromX", then, 0, 11, ARGUMENT, (p, v) -> p.add(1, 1, v, 5, 5, 5));
            range("2: fromY", then, 0, 11, ARGUMENT, (p, v) -> p.add(1, 1, 5, v, 5, 5));
            range("2: toX", then, 0, 11, ARGUMENT, (p, v) -> p.add(1, 1, 5, 5, v, 5));
            range("2: toY", then, 0, 11, ARGUMENT, (p, v) -> p.add(1, 1, 5, 5, 5, v));
            range("2: both x", then, 0, 11, ARGUMENT, (p, v) -> p.add(1, 1, v, 0, v, 11));
            range("2: both y", then, 0, 11, ARGUMENT, (p, v) -> p.add(1, 1, 11, v, 0, v));
            range("2: all", then, 0, 11, ARGUMENT, (p, v) -> p.add(1, 1, v, v, v, v));
            int[][] next = {{4, 4}, {4, 6}, {6, 4}, {6, 6}, {0, 0}, {0, 11}, {11, 0}, {11, 11}, {5, 12}};
            for (int[] cell : next) {
                check.refused("2: from 5 5 to " + cell[0] + " " + cell[1], then, ARGUMENT,
                    p -> p.add(1, 1, 5, 5, cell[0], cell[1]));
            }
        }
    }

    private static List<Consumer<Wallplan>> roomForOne() {
        List<Consumer<Wallplan>> found = new ArrayList<>();
        found.add(Situations::empty);
        for (int state = Wallplan.DRAWN; state <= Wallplan.REMOVED; state++) {
            found.add(Situations.elements(39, state));
        }
        return found;
    }

    private static void addWithoutRoom() {
        for (int state = Wallplan.DRAWN; state <= Wallplan.REMOVED; state++) {
            Consumer<Wallplan> full = Situations.elements(40, state);
            for (int storey = 0; storey < 4; storey++) {
                int on = storey;
                check.refused("2: there are 40 in state " + state, full, STATE, p -> p.add(2, on, 5, 5, 5, 5));
            }
        }
        for (int storey = 0; storey < 4; storey++) {
            int locked = storey;
            Consumer<Wallplan> then = plan -> Situations.lockWithOne(plan, locked);
            for (int other = 0; other < 4; other++) {
                int on = other;
                if (on == locked) {
                    check.refused("2: locked " + locked, then, STATE, p -> p.add(0, on, 5, 5, 5, 5));
                } else {
                    check.allowed("2: " + on + ", where " + locked + " is locked", then, p -> p.add(0, on, 5, 5, 5, 5));
                }
            }
        }
    }

    private static void move() {
        Consumer<Wallplan> five = Situations.elements(5, Wallplan.DRAWN);
        range("3: trade", five, 0, 2, INDEX, (p, v) -> p.move(v, 5, 3, 0, 0));
        range("3: base", five, 0, 5, ARGUMENT, (p, v) -> p.move(0, v, 3, 0, 0));
        range("3: base of a trade that is not taken from behind", five, 0, 5, ARGUMENT,
            (p, v) -> p.move(2, v, 4, 0, 0));
        elements("3: element", Wallplan.DRAWN, (p, v) -> p.move(0, 0, v, 0, 0));
        for (int state = Wallplan.ORDERED; state <= Wallplan.REMOVED; state++) {
            Consumer<Wallplan> stopped = Situations.elements(2, state);
            for (int element = 0; element < 2; element++) {
                int moved = element;
                check.refused("3: in state " + state, stopped, STATE, p -> p.move(0, 0, moved, 1, 1));
                check.refused("3: by nothing in state " + state, stopped, STATE, p -> p.move(0, 2, moved, 0, 0));
            }
        }
    }

    private static void moveSteps() {
        Consumer<Wallplan> corners = plan -> {
            plan.add(0, 0, 0, 0, 0, 0);
            plan.add(0, 0, 11, 11, 11, 11);
        };
        range("3: byX", corners, -11, 11, ARGUMENT, (p, v) -> p.move(0, 2, v < 0 ? 1 : 0, v, 0));
        range("3: byY", corners, -11, 11, ARGUMENT, (p, v) -> p.move(0, 2, v < 0 ? 1 : 0, 0, v));
        range("3: both", corners, -11, 11, ARGUMENT, (p, v) -> p.move(0, 2, v < 0 ? 1 : 0, v, v));
        range("3: byX from 0", corners, 0, 11, ARGUMENT, (p, v) -> p.move(0, 2, 0, v, 0));
        range("3: byY from 11", corners, -11, 0, ARGUMENT, (p, v) -> p.move(0, 2, 1, 0, v));
        Consumer<Wallplan> rows = plan -> {
            plan.add(0, 0, 3, 5, 9, 5);
            plan.add(0, 0, 9, 5, 3, 5);
            plan.add(0, 0, 5, 3, 5, 9);
            plan.add(0, 0, 5, 9, 5, 3);
        };
        for (int element = 0; element < 4; element++) {
            int moved = element;
            int least = element < 2 ? -3 : -5;
            range("3: byX of a row", rows, least, element < 2 ? 2 : 6, ARGUMENT, (p, v) -> p.move(0, 4, moved, v, 0));
            least = element < 2 ? -5 : -3;
            range("3: byY of a row", rows, least, element < 2 ? 6 : 2, ARGUMENT, (p, v) -> p.move(0, 4, moved, 0, v));
        }
    }

    private static void remove() {
        Consumer<Wallplan> five = Situations.elements(5, Wallplan.DRAWN);
        range("4: trade", five, 0, 2, INDEX, (p, v) -> p.remove(v, 5, 3));
        range("4: base", five, 0, 5, ARGUMENT, (p, v) -> p.remove(0, v, 3));
        range("4: base of a trade that would not move it", five, 0, 5, ARGUMENT, (p, v) -> p.remove(2, v, 4));
        elements("4: element", Wallplan.DRAWN, (p, v) -> p.remove(0, 0, v));
        for (int state = Wallplan.ORDERED; state <= Wallplan.REMOVED; state++) {
            check.refused("4: in state " + state, Situations.elements(2, state), STATE, p -> p.remove(0, 2, 1));
        }
    }

    private static void clear() {
        for (Consumer<Wallplan> then : SITUATIONS) {
            for (int other = 0; other < 3; other++) {
                int fixed = other;
                range("5: kind", then, 0, 2, INDEX, (p, v) -> p.clear(v, fixed, 1));
                range("5: other", then, 0, 2, INDEX, (p, v) -> p.clear(fixed, v, 1));
                range("5: cells", then, 0, 3, ARGUMENT, (p, v) -> p.clear(fixed, 1, v));
            }
            range("5: both", then, 0, 2, INDEX, (p, v) -> p.clear(v, v, 1));
        }
    }

    private static void part() {
        for (Consumer<Wallplan> then : SITUATIONS) {
            range("6: kind", then, 0, 2, INDEX, (p, v) -> p.part(v, 2));
            for (int kind = 0; kind < 3; kind++) {
                int fixed = kind;
                range("6: cells", then, 1, 12, ARGUMENT, (p, v) -> p.part(fixed, v));
            }
        }
    }

    private static void lead() {
        for (Consumer<Wallplan> then : SITUATIONS) {
            range("7: kind", then, 0, 2, INDEX, (p, v) -> p.lead(v, 2));
            for (int kind = 0; kind < 3; kind++) {
                int fixed = kind;
                range("7: days", then, 0, 100, ARGUMENT, (p, v) -> p.lead(fixed, v));
            }
        }
    }

    private static void ordersAndBuilding() {
        elements("8: element", Wallplan.DRAWN, (p, v) -> p.order(v));
        elements("9: element", Wallplan.ORDERED, (p, v) -> p.cancel(v));
        elements("10: element", Wallplan.DELIVERED, (p, v) -> p.build(v));
        for (int state = Wallplan.DRAWN; state <= Wallplan.REMOVED; state++) {
            for (int element : new int[] {0, 39}) {
                Consumer<Wallplan> full = Situations.elements(40, state);
                String what = " of " + element + " in state " + state;
                only(state == Wallplan.DRAWN, "8: order" + what, full, p -> p.order(element));
                only(state == Wallplan.ORDERED, "9: cancel" + what, full, p -> p.cancel(element));
                only(state == Wallplan.DELIVERED, "10: build" + what, full, p -> p.build(element));
            }
        }
    }

    private static void only(boolean taken, String what, Consumer<Wallplan> then, Consumer<Wallplan> call) {
        if (taken) {
            check.allowed(what, then, call);
        } else {
            check.refused(what, then, STATE, call);
        }
    }

    private static void inspect() {
        for (Consumer<Wallplan> then : SITUATIONS) {
            range("11: storey", then, 0, 3, INDEX, (p, v) -> p.inspect(v == 3 ? 3 - lockedThree(p) : v));
        }
        for (int storey = 0; storey < 4; storey++) {
            int locked = storey;
            check.refused("11: locked " + storey, plan -> Situations.lockWithOne(plan, locked), STATE,
                p -> p.inspect(locked));
        }
    }

    // Where storey 3 is locked, 2 is the last one that can be inspected.
    private static int lockedThree(Wallplan plan) {
        return plan.isLocked(3) ? 1 : 0;
    }

    private static void pass() {
        for (int day : new int[] {0, 1, 399, 400}) {
            range("12: days from " + day, plan -> Situations.waitUntil(plan, day), 1, 100, ARGUMENT,
                (p, v) -> p.pass(v));
        }
        for (int day : new int[] {401, 499, 500}) {
            Consumer<Wallplan> then = plan -> Situations.waitUntil(plan, day);
            for (int days : new int[] {Integer.MIN_VALUE, -1, 0, 101, Integer.MAX_VALUE}) {
                check.refused("12: " + days + " days from " + day, then, ARGUMENT, p -> p.pass(days));
            }
            check.refused("12: above 500 from " + day, then, STATE, p -> p.pass(501 - day));
            check.refused("12: 100 from " + day, then, STATE, p -> p.pass(100));
            if (day < 500) {
                check.allowed("12: to 500 from " + day, then, p -> p.pass(500 - day));
            }
        }
    }

    private static void dayAndRevision() {
        for (Consumer<Wallplan> then : SITUATIONS) {
            check.allowed("13: day", then, Wallplan::day);
            check.changesNothing("13: day", then, Wallplan::day);
            check.allowed("14: revision", then, Wallplan::revision);
            check.changesNothing("14: revision", then, Wallplan::revision);
        }
    }

    private static void elementOf() {
        for (int state = Wallplan.DRAWN; state <= Wallplan.REMOVED; state++) {
            for (int what : new int[] {0, 9}) {
                elements("15: element in state " + state, state, (p, v) -> p.elementOf(v, what));
            }
            for (int element : new int[] {0, 39}) {
                range("15: what", Situations.elements(40, state), 0, 9, ARGUMENT, (p, v) -> p.elementOf(element, v));
            }
        }
    }

    private static void clash() {
        for (int state : new int[] {Wallplan.DRAWN, Wallplan.REMOVED}) {
            elements("16: element", state, (p, v) -> p.clash(v, 0));
            elements("16: other", state, (p, v) -> p.clash(0, v));
            elements("16: both", state, (p, v) -> p.clash(v, v));
        }
    }

    private static void storeysAndKinds() {
        for (Consumer<Wallplan> then : SITUATIONS) {
            range("17: storey", then, 0, 3, INDEX, (p, v) -> p.clashes(v));
            for (int other = 0; other < 3; other++) {
                int fixed = other;
                range("18: trade", then, 0, 2, INDEX, (p, v) -> p.isStopped(v, fixed));
                range("18: storey", then, 0, 3, INDEX, (p, v) -> p.isStopped(fixed, v));
            }
            range("18: both", then, 0, 2, INDEX, (p, v) -> p.isStopped(v, v == 3 ? 4 : v));
            range("19: kind", then, 0, 2, INDEX, (p, v) -> p.parts(v));
            range("20: kind", then, 0, 2, INDEX, (p, v) -> p.partsAnew(v));
            range("21: kind", then, 0, 2, INDEX, (p, v) -> p.ordered(v));
            range("23: storey", then, 0, 3, INDEX, (p, v) -> p.isLocked(v));
        }
    }

    private static void kindsAt() {
        for (int kinds = 0; kinds < 8; kinds++) {
            Wallplan plan = new Wallplan();
            for (int kind = 0; kind < 3; kind++) {
                if ((kinds >> kind & 1) == 1) {
                    plan.add(kind, 0, 5, 0, 5, 5);
                }
            }
            check.same("22: no kind to all kinds", plan.kindsAt(0, 5, 5), kinds);
            check.same("22: a cell ahead of that", plan.kindsAt(0, 5, 6), 0);
        }
        for (Consumer<Wallplan> then : SITUATIONS) {
            for (int storey : new int[] {0, 3}) {
                range("22: x", then, 0, 11, ARGUMENT, (p, v) -> p.kindsAt(storey, v, 5));
                range("22: y", then, 0, 11, ARGUMENT, (p, v) -> p.kindsAt(storey, 5, v));
                range("22: both", then, 0, 11, ARGUMENT, (p, v) -> p.kindsAt(storey, v, v));
            }
            range("22: storey", then, 0, 3, INDEX, (p, v) -> p.kindsAt(v, 5, 5));
        }
    }
}
