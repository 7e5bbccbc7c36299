import java.util.function.Consumer;

/**
 * The sentences under 'Terms' of the document on days, the house and edits, each with a test of its
 * own: the last value on this side of the boundary that it names, and the first on the other side.
 * Each test stands below its sentence.
 */
public final class TermsOfEditsTest {
    private static final String INDEX = "IndexOutOfBoundsException";
    private static final String ARGUMENT = "IllegalArgumentException";
    private static final String STATE = "IllegalStateException";
    private static final Check check = new Check();

    public static void main(String[] args) {
        moreThanOneObject();
        theLastCall();
        days();
        storeys();
        cellsOfAStorey();
        trades();
        numbersOfElements();
        rowsOfCells();
        kindsOfElements();
        clearances();
        nearerThanTheClearance();
        howFarCellsAre();
        removedOnesClashWithNone();
        revisions();
        lastChanges();
        bases();
        editsFromOlderRevisions();
        movesByNothing();
        movesOutOfTheStorey();
        statesThatStopEdits();
        check.finish("TermsOfEditsTest");
    }

    // "An object is used for at most 512 calls after it has been made"
    private static void theLastCall() {
        Wallplan plan = new Wallplan();
        plan.add(0, 0, 0, 0, 0, 0);
        for (int call = 2; call <= 511; call++) {
            check.same("call " + call, plan.move(0, call - 1, 0, 0, 0), true);
        }
        check.same("call 512", plan.revision(), 511);
        Wallplan refusing = new Wallplan();
        for (int call = 1; call <= 511; call++) {
            check.same("refused call " + call, Calls.answer(refusing, "add", 0, 0, 0, 0, 0, 12), ARGUMENT);
        }
        check.same("call 512, behind refused ones", refusing.add(0, 0, 0, 0, 0, 11), 0);
    }

    private static void moreThanOneObject() {
        Wallplan changed = Check.behind(Situations::someOfEach);
        Wallplan fresh = new Wallplan();
        check.same("a new object beside a changed one", Snapshot.of(Wallplan::new), Snapshot.of(() -> {
            changed.pass(1);
            return new Wallplan();
        }));
        check.same("its day", fresh.day(), 0);
        check.same("its revision", fresh.revision(), 0);
    }

    // "Days are counted from 0, at most 500; it is the day 0 at first."
    private static void days() {
        check.same("the day at first", new Wallplan().day(), 0);
        for (int left = 0; left <= 100; left++) {
            int day = 500 - left;
            Consumer<Wallplan> then = plan -> Situations.waitUntil(plan, day);
            check.same("day " + day, Check.behind(then).day(), day);
            if (left >= 1) {
                check.same("to 500 from " + day, Check.behind(then).pass(left), 500);
            }
            int tooMany = left + 1;
            if (tooMany <= 100) {
                check.refused("to 501 from " + day, then, IllegalStateException.class, p -> p.pass(tooMany));
            }
        }
        Wallplan refused = Check.behind(plan -> Situations.waitUntil(plan, 499));
        check.same("two days from 499", Calls.answer(refused, "pass", 2), STATE);
        check.same("then the last one", refused.pass(1), 500);
        check.same("none behind it", Calls.answer(refused, "pass", 1), STATE);
        check.same("the day stays", refused.day(), 500);
    }

    // "There are the storeys 0 to 3"
    private static void storeys() {
        for (int storey : new int[] {Integer.MIN_VALUE, -2, -1, 0, 1, 2, 3, 4, 5, Integer.MAX_VALUE}) {
            boolean there = storey == 0 || storey == 1 || storey == 2 || storey == 3;
            Wallplan plan = new Wallplan();
            plan.add(0, 0, 0, 0, 0, 0);
            plan.add(0, 3, 0, 0, 0, 0);
            String what = " on storey " + storey;
            check.same("add" + what, Calls.answer(plan, "add", 1, storey, 5, 5, 5, 5), there ? (Object) 2L : INDEX);
            check.same("clashes" + what, Calls.answer(plan, "clashes", storey), there ? (Object) 0L : INDEX);
            check.same("isStopped" + what, Calls.answer(plan, "isStopped", 0, storey), there ? (Object) 0L : INDEX);
            check.same("kindsAt" + what, Calls.answer(plan, "kindsAt", storey, 5, 5), there ? (Object) 2L : INDEX);
            check.same("inspect" + what, Calls.answer(plan, "inspect", storey), there ? (Object) 0L : INDEX);
            check.same("isLocked" + what, Calls.answer(plan, "isLocked", storey), there ? (Object) 0L : INDEX);
        }
    }

    // "each of 12 times 12 cells, x and y 0 to 11"
    private static void cellsOfAStorey() {
        for (int x = -1; x <= 12; x++) {
            for (int y = -1; y <= 12; y++) {
                boolean there = x != -1 && x != 12 && y != -1 && y != 12;
                Wallplan plan = new Wallplan();
                String what = " at " + x + " " + y;
                check.same("add" + what, Calls.answer(plan, "add", 0, 3, x, y, x, y), there ? (Object) 0L : ARGUMENT);
                check.same("kindsAt" + what, Calls.answer(plan, "kindsAt", 3, x, y), there ? (Object) 1L : ARGUMENT);
            }
        }
    }

    // "There are the trades 0 to 2, that make WALLs, PIPEs and WIREs."
    private static void trades() {
        for (int trade : new int[] {Integer.MIN_VALUE, -2, -1, 0, 1, 2, 3, 4, Integer.MAX_VALUE}) {
            boolean there = trade == 0 || trade == 1 || trade == 2;
            Wallplan plan = new Wallplan();
            String what = " by trade " + trade;
            check.same("add" + what, Calls.answer(plan, "add", trade, 0, 5, 5, 5, 5), there ? (Object) 0L : INDEX);
            plan.add(0, 0, 5, 5, 5, 5);
            int now = plan.revision();
            check.same("move" + what, Calls.answer(plan, "move", trade, now, 0, 0, 0), there ? (Object) 1L : INDEX);
            check.same("isStopped" + what, Calls.answer(plan, "isStopped", trade, 0), there ? (Object) 0L : INDEX);
            now = plan.revision();
            check.same("remove" + what, Calls.answer(plan, "remove", trade, now, 0), there ? (Object) 1L : INDEX);
        }
        Wallplan plan = new Wallplan();
        check.same("WALL, PIPE and WIRE", "" + Wallplan.WALL + Wallplan.PIPE + Wallplan.WIRE, "012");
        for (int trade = 0; trade < 3; trade++) {
            plan.add(trade, 0, 5, 5, 5, 5);
            check.same("what trade " + trade + " makes", plan.elementOf(trade, 0), trade);
        }
    }

    // "Elements are numbered from 0, at most 40"
    private static void numbersOfElements() {
        for (int state = Wallplan.DRAWN; state <= Wallplan.REMOVED; state++) {
            Wallplan plan = new Wallplan();
            for (int number = 0; number < 40; number++) {
                check.same("no element yet", Calls.answer(plan, "elementOf", number, 6), INDEX);
                check.same("its number", plan.add(number % 3, number % 4, 1, 1, 1, 1), number);
            }
            Wallplan full = Check.behind(Situations.elements(40, state));
            check.same("the last one", full.elementOf(39, 6), state);
            check.same("none behind it", Calls.answer(full, "elementOf", 40, 6), INDEX);
            for (int storey = 0; storey < 4; storey++) {
                int added = storey;
                check.refused("the 41st, where all 40 are in state " + state, Situations.elements(40, state),
                    IllegalStateException.class, p -> p.add(0, added, 0, 0, 0, 0));
            }
            Wallplan nearlyFull = Check.behind(Situations.elements(39, state));
            check.same("the 40th, where 39 are in state " + state, nearlyFull.add(0, 0, 0, 0, 0, 0), 39);
        }
    }

    // "each is a straight row of cells on a storey, from one cell, its first, to another one, its
    // last, in the same column or row, perhaps the same one"
    private static void rowsOfCells() {
        for (int x = 0; x < 12; x++) {
            for (int y = 0; y < 12; y++) {
                boolean straight = x == 7 || y == 4;
                Wallplan plan = new Wallplan();
                String what = " from 7 4 to " + x + " " + y;
                Object due = straight ? (Object) 0L : ARGUMENT;
                check.same("add" + what, Calls.answer(plan, "add", 2, 1, 7, 4, x, y), due);
                int cells = straight ? Math.max(Math.abs(x - 7), Math.abs(y - 4)) + 1 : 0;
                check.same("cells" + what, cellsThere(plan, 1), cells);
                if (straight) {
                    check.same("told cells" + what, plan.elementOf(0, 9), cells);
                    check.same("first x" + what, plan.elementOf(0, 2), 7);
                    check.same("first y" + what, plan.elementOf(0, 3), 4);
                    check.same("last x" + what, plan.elementOf(0, 4), x);
                    check.same("last y" + what, plan.elementOf(0, 5), y);
                }
            }
        }
    }

    private static int cellsThere(Wallplan plan, int storey) {
        int cells = 0;
        for (int x = 0; x < 12; x++) {
            for (int y = 0; y < 12; y++) {
                cells += plan.kindsAt(storey, x, y) == 0 ? 0 : 1;
            }
        }
        return cells;
    }

    // "of the kind of the trade that adds it"
    private static void kindsOfElements() {
        for (int trade = 0; trade < 3; trade++) {
            for (int editor = 0; editor < 3; editor++) {
                Wallplan plan = new Wallplan();
                plan.add(trade, 0, 5, 5, 5, 5);
                plan.move(editor, 1, 0, 1, 0);
                String what = "added by " + trade + ", moved by " + editor;
                check.same(what + ": its kind", plan.elementOf(0, 0), trade);
                check.same(what + ": the kinds there", plan.kindsAt(0, 6, 5), 1 << trade);
                check.same(what + ": parts of its kind", plan.parts(trade), 1);
                check.same(what + ": parts of the next", plan.parts((trade + 1) % 3), 0);
            }
        }
    }

    // "For each two kinds, also for one kind twice, there is a clearance, 0 to 3, 0 at first."
    private static void clearances() {
        for (int kind = -1; kind <= 3; kind++) {
            for (int other = -1; other <= 3; other++) {
                boolean there = kind != -1 && kind != 3 && other != -1 && other != 3;
                String what = "clearance of " + kind + " and " + other;
                for (int cells = -1; cells <= 4; cells++) {
                    Wallplan plan = new Wallplan();
                    boolean inRange = cells != -1 && cells != 4;
                    check.same(what + " at first, told " + cells, Calls.answer(plan, "clear", kind, other, cells),
                        !there ? INDEX : inRange ? (Object) 0L : ARGUMENT);
                    if (there) {
                        int due = inRange ? cells : 0;
                        check.same(what + " then", plan.clear(kind, other, 2), due);
                        check.same(what + " the other way round", plan.clear(other, kind, 0), 2);
                    }
                }
            }
        }
    }

    // "Two elements of a storey clash, if a cell of the one is less far from a cell of the other than
    // the clearance of their kinds"
    private static void nearerThanTheClearance() {
        for (int kind = 0; kind < 3; kind++) {
            for (int other = 0; other < 3; other++) {
                for (int clearance = 0; clearance <= 3; clearance++) {
                    for (int far = 0; far <= 4; far++) {
                        Wallplan plan = new Wallplan();
                        plan.add(kind, 2, 0, 5, 6, 5);
                        plan.add(other, 2, 6, 5 + far, 11, 5 + far);
                        plan.add(other, 1, 0, 5, 6, 5);
                        plan.clear(kind, other, clearance);
                        String what = kind + " and " + other + ", " + far + " apart, clearance " + clearance;
                        check.same(what, plan.clash(0, 1), far < clearance);
                        check.same(what + ", the other way round", plan.clash(1, 0), far < clearance);
                        check.same(what + ", pairs", plan.clashes(2), far < clearance ? 1 : 0);
                        check.same(what + ", on another storey", plan.clash(0, 2), false);
                        check.same(what + ", with itself", plan.clash(0, 0), false);
                    }
                }
            }
        }
        for (int clearance = 0; clearance <= 3; clearance++) {
            Wallplan crossing = new Wallplan();
            crossing.add(0, 2, 1, 5, 10, 5);
            crossing.add(2, 2, 4, 0, 4, 11);
            crossing.clear(2, 0, clearance);
            check.same("rows that cross, clearance " + clearance, crossing.clash(0, 1), clearance > 0);
        }
        Wallplan full = Check.behind(plan -> {
            for (int number = 0; number < 40; number++) {
                plan.add(1, 3, 0, 0, 0, 0);
            }
        });
        check.same("no pair of forty in one cell, clearance 0", full.clashes(3), 0);
        full.clear(1, 1, 1);
        check.same("all pairs of forty in one cell, clearance 1", full.clashes(3), 40 * 39 / 2);
        check.same("none elsewhere", full.clashes(2), 0);
    }

    // "how far two cells are is the greater one of the differences of their x and their y"
    private static void howFarCellsAre() {
        for (int x = 0; x < 12; x++) {
            for (int y = 0; y < 12; y++) {
                int far = Math.max(Math.abs(x - 5), Math.abs(y - 6));
                for (int clearance = 1; clearance <= 3; clearance++) {
                    Wallplan plan = new Wallplan();
                    plan.add(0, 0, 5, 6, 5, 6);
                    plan.add(1, 0, x, y, x, y);
                    plan.clear(1, 0, clearance);
                    String what = "5 6 and " + x + " " + y + ", clearance " + clearance;
                    check.same(what, plan.clash(0, 1), far < clearance);
                }
            }
        }
    }

    // "Elements that are REMOVED clash with none."
    private static void removedOnesClashWithNone() {
        for (int removed = 0; removed < 2; removed++) {
            Wallplan plan = new Wallplan();
            plan.lead(0, 0);
            plan.add(0, 1, 0, 0, 5, 0);
            plan.add(0, 1, 0, 0, 5, 0);
            plan.clear(0, 0, 1);
            String what = "with " + removed + " REMOVED";
            check.same("before", plan.clash(0, 1) && plan.isStopped(0, 1) && plan.clashes(1) == 1, true);
            plan.remove(0, 2, removed);
            check.same(what + ": clash", plan.clash(0, 1) || plan.clash(1, 0), false);
            check.same(what + ": clashes", plan.clashes(1), 0);
            check.same(what + ": isStopped", plan.isStopped(0, 1), false);
            plan.order(1 - removed);
            check.same(what + ": build", plan.build(1 - removed), true);
            check.same(what + ": inspect", plan.inspect(1), true);
        }
    }

    // "The model has a revision, 0 at first, which is 1 more with each element that is added, moved
    // or removed"
    private static void revisions() {
        check.same("the revision at first", new Wallplan().revision(), 0);
        Wallplan plan = new Wallplan();
        Object[][] calls = {
            {1, "add", 0, 0, 1, 1, 1, 1}, {1, "add", 1, 0, 5, 5, 5, 5}, {1, "move", 0, 2, 0, 1, 1},
            {0, "move", 1, 0, 0, 1, 1}, {0, "move", 0, 3, 0, 0, 10}, {0, "move", 0, 4, 0, 1, 1},
            {0, "add", 0, 0, 1, 1, 2, 2}, {0, "add", 3, 0, 1, 1, 1, 1}, {1, "remove", 2, 0, 1},
            {0, "remove", 2, 0, 1}, {0, "remove", 2, 0, 2}, {0, "clear", 0, 0, 1}, {0, "part", 0, 1},
            {0, "lead", 0, 1}, {0, "order", 0}, {0, "cancel", 0}, {0, "order", 0}, {0, "move", 0, 4, 0, 1, 1},
            {0, "remove", 0, 4, 0}, {0, "pass", 1}, {0, "build", 0}, {0, "inspect", 0}, {0, "add", 0, 0, 1, 1, 1, 1},
            {1, "add", 0, 1, 1, 1, 1, 1},
        };
        int due = 0;
        for (Object[] call : calls) {
            int[] a = new int[call.length - 2];
            for (int i = 0; i < a.length; i++) {
                a[i] = (Integer) call[i + 2];
            }
            Object answer = Calls.answer(plan, (String) call[1], a);
            due += (Integer) call[0];
            check.same("the revision behind " + call[1] + ", that answers " + answer, plan.revision(), due);
        }
    }

    // "an element has the revision at which it was changed last, and the trade that did that"
    private static void lastChanges() {
        Wallplan plan = new Wallplan();
        plan.add(2, 0, 0, 0, 0, 0);
        lastChange(plan, 0, 1, 2, "added first");
        plan.add(1, 0, 0, 0, 0, 0);
        lastChange(plan, 1, 2, 1, "added next");
        lastChange(plan, 0, 1, 2, "as it was");
        plan.move(1, 2, 0, 1, 0);
        lastChange(plan, 0, 3, 1, "moved");
        plan.move(2, 2, 0, 1, 0);
        lastChange(plan, 0, 3, 1, "not moved, as the edit is not taken");
        Calls.answer(plan, "move", 0, 3, 0, 11, 0);
        lastChange(plan, 0, 3, 1, "not moved, as it would leave the storey");
        plan.order(0);
        plan.pass(5);
        plan.build(0);
        lastChange(plan, 0, 3, 1, "BUILT");
        plan.remove(0, 0, 1);
        lastChange(plan, 1, 4, 0, "REMOVED");
        Calls.answer(plan, "remove", 2, 4, 1);
        lastChange(plan, 1, 4, 0, "not REMOVED twice");
    }

    private static void lastChange(Wallplan plan, int element, int revision, int trade, String what) {
        check.same(what + ": the revision of " + element, plan.elementOf(element, 7), revision);
        check.same(what + ": the trade of " + element, plan.elementOf(element, 8), trade);
    }

    // "A trade edits from a base, a revision up to now."
    private static void bases() {
        for (int now = 1; now <= 4; now++) {
            int last = now;
            Consumer<Wallplan> then = plan -> {
                plan.add(0, 0, 5, 5, 5, 5);
                for (int revision = 2; revision <= last; revision++) {
                    plan.move(0, 0, 0, 0, 0);
                }
            };
            for (int base : new int[] {Integer.MIN_VALUE, -2, -1, now + 1, now + 2, 511, Integer.MAX_VALUE}) {
                String what = "base " + base + " at " + now;
                check.refused(what + ": move", then, IllegalArgumentException.class, p -> p.move(0, base, 0, 0, 0));
                check.refused(what + ": remove", then, IllegalArgumentException.class, p -> p.remove(0, base, 0));
            }
            for (int base = 0; base <= now; base++) {
                int from = base;
                check.allowed("base " + base + " at " + now + ": move", then, p -> p.move(0, from, 0, 0, 0));
                check.allowed("base " + base + " at " + now + ": remove", then, p -> p.remove(0, from, 0));
            }
        }
        Wallplan plan = new Wallplan();
        plan.add(0, 0, 5, 5, 5, 5);
        check.same("from now", plan.move(0, 1, 0, 0, 0), true);
        check.same("from what is now behind that", plan.move(0, 2, 0, 0, 0), true);
    }

    // "An edit that moves or removes an element, the last change of which was behind the base and by
    // another trade, is taken, if it removes it, or if the number of the trade is lower than that of
    // the one that changed it last; otherwise it is not."
    private static void editsFromOlderRevisions() {
        for (int last = 0; last < 3; last++) {
            int lastTrade = last;
            // Element 0 was changed last at 3 by that trade, and the revision is 4.
            Consumer<Wallplan> then = plan -> {
                plan.add(1, 0, 5, 5, 5, 5);
                plan.add(1, 0, 7, 7, 7, 7);
                plan.move(lastTrade, 2, 0, 0, 1);
                plan.add(1, 0, 9, 9, 9, 9);
            };
            for (int trade = 0; trade < 3; trade++) {
                for (int base = 0; base <= 4; base++) {
                    boolean behind = base < 3 && trade != last;
                    boolean takes = !behind || trade < last;
                    String what = "trade " + trade + " from " + base + ", behind trade " + last + " at 3";
                    Wallplan moving = Check.behind(then);
                    check.same(what + ": move", moving.move(trade, base, 0, 1, 0), takes);
                    check.same(what + ": x", moving.elementOf(0, 2), takes ? 6 : 5);
                    lastChange(moving, 0, takes ? 5 : 3, takes ? trade : last, what);
                    Wallplan removing = Check.behind(then);
                    check.same(what + ": remove", removing.remove(trade, base, 0), true);
                    check.same(what + ": state", removing.elementOf(0, 6), Wallplan.REMOVED);
                    lastChange(removing, 0, 5, trade, what);
                }
            }
            check.changesNothing("an edit that is not taken, behind trade " + last, then, p -> {
                if (lastTrade < 2) {
                    p.move(2, 2, 0, 1, 0);
                }
            });
        }
        Wallplan plan = new Wallplan();
        plan.add(1, 0, 5, 5, 5, 5);
        check.same("the adding is a change too, for a higher trade", plan.move(2, 0, 0, 1, 0), false);
        check.same("and for a lower one", plan.move(0, 0, 0, 1, 0), true);
    }

    // "Other edits are taken, also one that moves by nothing."
    private static void movesByNothing() {
        Wallplan plan = new Wallplan();
        plan.add(0, 0, 5, 5, 8, 5);
        check.same("by nothing, from now", plan.move(2, 1, 0, 0, 0), true);
        lastChange(plan, 0, 2, 2, "by nothing");
        check.same("the cells stay", "" + plan.elementOf(0, 2) + plan.elementOf(0, 3) + plan.elementOf(0, 4)
            + plan.elementOf(0, 5), "5585");
        check.same("by nothing, by the same trade from behind", plan.move(2, 0, 0, 0, 0), true);
        check.same("by nothing, by a lower trade from behind", plan.move(1, 0, 0, 0, 0), true);
        check.same("by nothing, by a higher trade from behind", plan.move(2, 3, 0, 0, 0), false);
        check.same("the revision", plan.revision(), 4);
    }

    // "One that would leave the storey is no edit."
    private static void movesOutOfTheStorey() {
        int[][] rows = {{3, 2, 8, 2}, {8, 2, 3, 2}, {6, 1, 6, 9}, {6, 9, 6, 1}, {4, 7, 4, 7}, {0, 0, 11, 0},
            {11, 11, 11, 0}};
        for (int[] row : rows) {
            Consumer<Wallplan> then = plan -> plan.add(1, 2, row[0], row[1], row[2], row[3]);
            int left = Math.min(row[0], row[2]);
            int right = 11 - Math.max(row[0], row[2]);
            int up = Math.min(row[1], row[3]);
            int down = 11 - Math.max(row[1], row[3]);
            int[][] lastSteps = {{-left, 0}, {right, 0}, {0, -up}, {0, down}, {-left, -up}, {right, down}};
            for (int[] by : lastSteps) {
                Wallplan plan = Check.behind(then);
                String what = "from " + row[0] + " " + row[1] + " by " + by[0] + " " + by[1];
                check.same(what, plan.move(1, 1, 0, by[0], by[1]), true);
                check.same(what + ": first", plan.elementOf(0, 2) * 12 + plan.elementOf(0, 3),
                    (row[0] + by[0]) * 12 + row[1] + by[1]);
                check.same(what + ": last", plan.elementOf(0, 4) * 12 + plan.elementOf(0, 5),
                    (row[2] + by[0]) * 12 + row[3] + by[1]);
            }
            int[][] tooFar = {{-left - 1, 0}, {right + 1, 0}, {0, -up - 1}, {0, down + 1}, {right + 1, down + 1}};
            for (int[] by : tooFar) {
                check.refused("from " + row[0] + " " + row[1] + " out by " + by[0] + " " + by[1], then,
                    IllegalArgumentException.class, p -> p.move(1, 1, 0, by[0], by[1]));
            }
        }
    }

    // "An element is DRAWN, ORDERED, DELIVERED, BUILT or REMOVED; those that are ORDERED, DELIVERED
    // or BUILT cannot be moved or removed."
    private static void statesThatStopEdits() {
        check.same("the states", "" + Wallplan.DRAWN + Wallplan.ORDERED + Wallplan.DELIVERED + Wallplan.BUILT
            + Wallplan.REMOVED, "01234");
        for (int state = Wallplan.DRAWN; state <= Wallplan.REMOVED; state++) {
            Consumer<Wallplan> then = Situations.elements(1, state);
            check.same("its state", Check.behind(then).elementOf(0, 6), state);
            int now = Check.behind(then).revision();
            if (state == Wallplan.DRAWN) {
                check.same("move of a DRAWN one", Check.behind(then).move(0, now, 0, 1, 0), true);
                check.same("remove of a DRAWN one", Check.behind(then).remove(0, now, 0), true);
                continue;
            }
            for (int trade = 0; trade < 3; trade++) {
                int by = trade;
                String what = " in state " + state + " by trade " + trade;
                check.refused("move" + what, then, IllegalStateException.class, p -> p.move(by, now, 0, 1, 0));
                check.refused("move by nothing" + what, then, IllegalStateException.class, p -> p.move(by, 0, 0, 0, 0));
                check.refused("remove" + what, then, IllegalStateException.class, p -> p.remove(by, now, 0));
                check.refused("remove from 0" + what, then, IllegalStateException.class, p -> p.remove(by, 0, 0));
            }
        }
    }
}
