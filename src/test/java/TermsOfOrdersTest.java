import java.util.function.Consumer;

/**
 * The sentences under 'Terms' of the document on parts, orders and inspections, each with a test of its
 * own: the last value on this side of the boundary that it names, and the first on the other side.
 * Each test stands below its sentence.
 */
public final class TermsOfOrdersTest {
    private static final String INDEX = "IndexOutOfBoundsException";
    private static final String ARGUMENT = "IllegalArgumentException";
    private static final String STATE = "IllegalStateException";
    private static final Check check = new Check();

    public static void main(String[] args) {
        cellsOfAPart();
        partsOfAnElement();
        partsLists();
        leadTimes();
        deliveries();
        cancelledOrders();
        building();
        stoppedTrades();
        inspections();
        lockedStoreys();
        check.finish("TermsOfOrdersTest");
    }

    // "A part of a kind has so many cells, 1 to 12, 3 at first."
    private static void cellsOfAPart() {
        for (int kind = -1; kind <= 3; kind++) {
            for (int cells = -1; cells <= 14; cells++) {
                boolean inRange = cells >= 1 && cells <= 12;
                Wallplan plan = new Wallplan();
                String what = "part of " + kind + " with " + cells;
                check.same(what, Calls.answer(plan, "part", kind, cells),
                    kind == -1 || kind == 3 ? INDEX : inRange ? (Object) 3L : ARGUMENT);
                if (kind != -1 && kind != 3) {
                    check.same(what + " then", plan.part(kind, 5), inRange ? cells : 3);
                    check.same(what + ", the next kind's", plan.part((kind + 1) % 3, 5), 3);
                }
            }
        }
    }

    // "An element needs as many parts as its cells, divided by that as it is told now, rounded up,
    // also if it was ordered ahead of that."
    private static void partsOfAnElement() {
        for (int cells = 1; cells <= 12; cells++) {
            for (int size = 1; size <= 12; size++) {
                int due = 0;
                while (due * size < cells) {
                    due++;
                }
                Wallplan plan = new Wallplan();
                plan.add(2, 0, 0, 0, 0, cells - 1);
                plan.add(2, 1, cells - 1, 7, 0, 7);
                int parts = plan.order(1);
                check.same("by 3 at first", parts, (cells + 2) / 3);
                plan.part(2, size);
                String what = cells + " cells by " + size;
                check.same(what + ": order", plan.order(0), due);
                check.same(what + ": parts", plan.parts(2), 2 * due);
                check.same(what + ": partsAnew", plan.partsAnew(2), 2 * due);
                check.same(what + ": ordered, one of them ahead of that", plan.ordered(2), 2 * due);
                plan.pass(5);
                check.same(what + ": DELIVERED", plan.ordered(2), 2 * due);
                plan.build(0);
                plan.build(1);
                plan.part(2, 12);
                check.same(what + ": BUILT, by 12 then", plan.ordered(2), 2);
            }
        }
    }

    // "The parts list of a kind are the parts of all its elements that are not REMOVED, together."
    private static void partsLists() {
        for (int kind = 0; kind < 3; kind++) {
            int asked = kind;
            Wallplan none = new Wallplan();
            check.same("parts of none", none.parts(kind) + none.partsAnew(kind) + none.ordered(kind), 0);
            Wallplan full = Check.behind(plan -> {
                for (int number = 0; number < 40; number++) {
                    plan.add(asked, number % 4, 0, number % 12, 11, number % 12);
                }
            });
            int[][] sizes = {{1, 480}, {2, 240}, {5, 120}, {11, 80}, {12, 40}};
            for (int[] size : sizes) {
                full.part(kind, size[0]);
                check.same("parts of forty by " + size[0], full.parts(kind), size[1]);
                check.same("parts anew of forty by " + size[0], full.partsAnew(kind), size[1]);
                check.same("of another kind", full.parts((kind + 1) % 3) + full.partsAnew((kind + 2) % 3), 0);
            }
            for (int number = 0; number < 40; number++) {
                full.remove(kind, full.revision(), number);
                check.same("parts of those that stay", full.parts(kind), 39 - number);
                check.same("parts anew of those that stay", full.partsAnew(kind), 39 - number);
            }
        }
        Wallplan plan = new Wallplan();
        for (int number = 0; number < 3; number++) {
            plan.add(0, number, 4, 4, 4, 4);
        }
        check.same("rounded up for each, not together", plan.parts(0) * 10 + plan.partsAnew(0), 33);
        Wallplan each = Check.behind(Situations::someOfEach);
        check.same("one ORDERED wall", each.parts(0) * 10 + each.partsAnew(0), 22);
        check.same("one DRAWN pipe, and none of the REMOVED one", each.parts(1) * 10 + each.partsAnew(1), 22);
        check.same("a BUILT wire and a DELIVERED one", each.parts(2) * 10 + each.partsAnew(2), 55);
    }

    // "Lead times are told for kinds, in days, 0 to 100, 5 at first."
    private static void leadTimes() {
        for (int kind = -1; kind <= 3; kind++) {
            for (int days : new int[] {Integer.MIN_VALUE, -2, -1, 0, 1, 5, 99, 100, 101, 102, Integer.MAX_VALUE}) {
                boolean inRange = days >= 0 && days <= 100;
                Wallplan plan = new Wallplan();
                String what = "lead time of " + kind + ", " + days;
                check.same(what, Calls.answer(plan, "lead", kind, days),
                    kind == -1 || kind == 3 ? INDEX : inRange ? (Object) 5L : ARGUMENT);
                if (kind != -1 && kind != 3) {
                    check.same(what + " then", plan.lead(kind, 7), inRange ? days : 5);
                    check.same(what + ", the next kind's", plan.lead((kind + 1) % 3, 7), 5);
                }
            }
        }
    }

    // "An element that is DRAWN can be ordered; it is DELIVERED, when as many days have passed as the
    // lead time was then, at once if that is 0."
    private static void deliveries() {
        for (int days : new int[] {0, 1, 2, 5, 99, 100}) {
            for (int orderDay : new int[] {0, 1, 399, 400}) {
                Wallplan plan = new Wallplan();
                plan.add(1, 0, 5, 5, 5, 5);
                Situations.waitUntil(plan, orderDay);
                plan.lead(1, days);
                plan.order(0);
                plan.lead(1, days == 0 ? 100 : 0);
                String what = "ordered on " + orderDay + " for " + days;
                int atFirst = days == 0 ? Wallplan.DELIVERED : Wallplan.ORDERED;
                check.same(what + ": at once", plan.elementOf(0, 6), atFirst);
                Situations.waitUntil(plan, orderDay + days - 1);
                check.same(what + ": a day ahead", plan.elementOf(0, 6), atFirst);
                Situations.waitUntil(plan, orderDay + days);
                check.same(what + ": then", plan.elementOf(0, 6), Wallplan.DELIVERED);
            }
        }
        Wallplan late = Check.behind(plan -> {
            plan.add(0, 0, 5, 5, 5, 5);
            plan.add(1, 0, 7, 7, 7, 7);
            Situations.waitUntil(plan, 495);
            plan.order(0);
            plan.lead(1, 6);
            plan.order(1);
            plan.pass(5);
        });
        check.same("due on the last day", late.elementOf(0, 6), Wallplan.DELIVERED);
        check.same("due a day behind it", late.elementOf(1, 6), Wallplan.ORDERED);
        Wallplan lastDay = Check.behind(plan -> {
            plan.add(0, 0, 5, 5, 5, 5);
            Situations.waitUntil(plan, 500);
            plan.lead(0, 100);
            plan.order(0);
        });
        check.same("ordered on the last day", lastDay.cancel(0), 100);
        lastDay.lead(0, 0);
        lastDay.order(0);
        check.same("ordered on the last day, for 0", lastDay.elementOf(0, 6), Wallplan.DELIVERED);
        for (int state = Wallplan.ORDERED; state <= Wallplan.REMOVED; state++) {
            check.refused("order in state " + state, Situations.elements(1, state), IllegalStateException.class,
                p -> p.order(0));
        }
    }

    // "As long as it is ORDERED, the order can be cancelled; it is DRAWN again."
    private static void cancelledOrders() {
        for (int days : new int[] {1, 2, 100}) {
            for (int passed = 0; passed <= days; passed += Math.max(1, days - 1)) {
                int wait = passed;
                Consumer<Wallplan> then = plan -> {
                    plan.add(1, 0, 5, 5, 5, 5);
                    plan.lead(1, days);
                    plan.order(0);
                    Situations.waitUntil(plan, wait);
                };
                String what = passed + " of " + days + " days";
                if (passed == days) {
                    check.refused(what, then, IllegalStateException.class, p -> p.cancel(0));
                    continue;
                }
                Wallplan plan = Check.behind(then);
                check.same(what + ": left", plan.cancel(0), days - passed);
                check.same(what + ": DRAWN", plan.elementOf(0, 6), Wallplan.DRAWN);
                check.same(what + ": it can be moved", plan.move(1, 1, 0, 1, 0), true);
                plan.pass(100);
                check.same(what + ": it does not come", plan.elementOf(0, 6), Wallplan.DRAWN);
                check.same(what + ": it can be ordered", plan.order(0), 1);
                check.same(what + ": for the whole time", plan.cancel(0), days);
            }
        }
        Wallplan atOnce = new Wallplan();
        atOnce.lead(1, 0);
        atOnce.add(1, 0, 5, 5, 5, 5);
        atOnce.order(0);
        check.same("a lead time of 0 leaves nothing to cancel", Calls.answer(atOnce, "cancel", 0), STATE);
        for (int state : new int[] {Wallplan.DRAWN, Wallplan.DELIVERED, Wallplan.BUILT, Wallplan.REMOVED}) {
            check.refused("cancel in state " + state, Situations.elements(1, state), IllegalStateException.class,
                p -> p.cancel(0));
        }
    }

    // "An element that is DELIVERED can be built, if it clashes with none."
    private static void building() {
        for (int otherState = Wallplan.DRAWN; otherState <= Wallplan.REMOVED; otherState++) {
            for (int far = 1; far <= 3; far++) {
                int state = otherState;
                int x = far;
                Consumer<Wallplan> then = plan -> {
                    Situations.elements(1, state).accept(plan);
                    plan.lead(1, 0);
                    plan.add(1, 0, x, 5, x, 5);
                    plan.order(1);
                    plan.clear(0, 1, 2);
                };
                boolean clashes = far < 2 && state != Wallplan.REMOVED;
                String what = far + " from one in state " + state;
                Wallplan plan = Check.behind(then);
                check.same(what, plan.build(1), !clashes);
                check.same(what + ": its state", plan.elementOf(1, 6), clashes ? Wallplan.DELIVERED : Wallplan.BUILT);
                if (clashes) {
                    check.changesNothing(what, then, p -> p.build(1));
                    plan.clear(1, 0, 1);
                    check.same(what + ": then it is clear", plan.build(1), true);
                }
            }
        }
        for (int state : new int[] {Wallplan.DRAWN, Wallplan.ORDERED, Wallplan.BUILT, Wallplan.REMOVED}) {
            check.refused("build in state " + state, Situations.elements(1, state), IllegalStateException.class,
                p -> p.build(0));
        }
    }

    // "A trade is stopped on a storey, if an element of its kind clashes there."
    private static void stoppedTrades() {
        for (int kind = 0; kind < 3; kind++) {
            for (int other = 0; other < 3; other++) {
                Wallplan plan = new Wallplan();
                plan.add(kind, 3, 4, 4, 4, 4);
                plan.add(other, 3, 4, 6, 4, 6);
                plan.add(kind, 0, 4, 4, 4, 4);
                plan.clear(kind, other, 2);
                stopped(plan, 3, -1, -1);
                plan.clear(kind, other, 3);
                stopped(plan, 3, kind, other);
                stopped(plan, 0, -1, -1);
                int mover = 2 - other;
                plan.move(mover, 3, 1, 0, -1);
                stopped(plan, 3, kind, other);
                plan.remove(mover, 4, 1);
                stopped(plan, 3, -1, -1);
            }
        }
        for (int storey = 0; storey < 4; storey++) {
            stopped(new Wallplan(), storey, -1, -1);
        }
    }

    private static void stopped(Wallplan plan, int storey, int kind, int other) {
        for (int trade = 0; trade < 3; trade++) {
            check.same("trade " + trade + " where " + kind + " and " + other + " clash",
                plan.isStopped(trade, storey), trade == kind || trade == other);
        }
    }

    // "A storey passes an inspection, if it has elements that are not REMOVED, all of these are BUILT,
    // and none clash"
    private static void inspections() {
        for (int storey = 0; storey < 4; storey++) {
            inspection(storey, false, "no elements", plan -> { });
            inspection(storey, false, "a REMOVED one alone", plan -> addInState(plan, 0, Wallplan.REMOVED));
            for (int state = Wallplan.DRAWN; state <= Wallplan.REMOVED; state++) {
                int one = state;
                boolean passes = state == Wallplan.BUILT;
                boolean passesWithABuiltOne = passes || state == Wallplan.REMOVED;
                inspection(storey, passes, "one in state " + state, plan -> addInState(plan, 0, one));
                inspection(storey, passesWithABuiltOne, "a BUILT one, then one in state " + state, plan -> {
                    addInState(plan, 0, Wallplan.BUILT);
                    addInState(plan, 1, one);
                });
                inspection(storey, passesWithABuiltOne, "one in state " + state + ", then a BUILT one", plan -> {
                    addInState(plan, 0, one);
                    addInState(plan, 1, Wallplan.BUILT);
                });
            }
            for (int clearance = 0; clearance <= 3; clearance++) {
                int cells = clearance;
                inspection(storey, clearance <= 2, "two BUILT ones, 2 apart, clearance " + clearance, plan -> {
                    addInState(plan, 0, Wallplan.BUILT);
                    addInState(plan, 1, Wallplan.BUILT);
                    plan.clear(0, 0, cells);
                });
            }
        }
    }

    /** Adds a wall to each storey: place 1 is 2 cells from place 0. */
    private static void addInState(Wallplan plan, int place, int state) {
        plan.lead(0, state == Wallplan.ORDERED ? 9 : 0);
        for (int storey = 0; storey < 4; storey++) {
            int number = plan.add(0, storey, 3, 3 + 2 * place, 3, 3 + 2 * place);
            if (state == Wallplan.REMOVED) {
                plan.remove(0, 0, number);
            } else if (state != Wallplan.DRAWN) {
                plan.order(number);
                if (state == Wallplan.BUILT) {
                    plan.build(number);
                }
            }
        }
    }

    private static void inspection(int storey, boolean passes, String what, Consumer<Wallplan> history) {
        Wallplan plan = Check.behind(history);
        String where = "storey " + storey + " with " + what;
        check.same(where, plan.inspect(storey), passes);
        for (int asked = 0; asked < 4; asked++) {
            check.same(where + ": locked " + asked, plan.isLocked(asked), passes && asked == storey);
        }
        if (!passes) {
            check.changesNothing(where, history, p -> p.inspect(storey));
        }
    }

    // "it is locked then, for good: nothing can be added there any more."
    private static void lockedStoreys() {
        for (int storey = 0; storey < 4; storey++) {
            int locked = storey;
            Consumer<Wallplan> then = plan -> Situations.lockWithOne(plan, locked);
            for (int trade = 0; trade < 3; trade++) {
                int by = trade;
                check.refused("add by " + trade + " on the locked storey " + storey, then, IllegalStateException.class,
                    p -> p.add(by, locked, 0, 0, 0, 0));
            }
            check.refused("inspect the locked storey " + storey, then, IllegalStateException.class,
                p -> p.inspect(locked));
            for (int other = 0; other < 4; other++) {
                Object due = other == storey ? STATE : (Object) 1L;
                Wallplan plan = Check.behind(then);
                check.same("add on " + other + " where " + storey + " is locked",
                    Calls.answer(plan, "add", 0, other, 0, 0, 0, 11), due);
                plan.clear(2, 0, 3);
                plan.clear(2, 2, 3);
                plan.pass(100);
                plan.part(2, 1);
                plan.lead(2, 100);
                check.same("locked for good", plan.isLocked(storey), true);
                check.same("also for an inspection", Calls.answer(plan, "inspect", storey), STATE);
            }
        }
        Wallplan all = new Wallplan();
        for (int storey = 0; storey < 4; storey++) {
            Situations.lockWithOne(all, storey);
        }
        for (int storey = 0; storey < 4; storey++) {
            check.same("all are locked", Calls.answer(all, "add", 0, storey, 0, 0, 0, 0), STATE);
            check.same("and isLocked", all.isLocked(storey), true);
        }
    }
}
