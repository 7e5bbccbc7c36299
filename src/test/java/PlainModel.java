import java.util.ArrayList;
import java.util.List;

/**
 * The document once more, in another way than the program: each element keeps the list of its
 * cells, its state is found from its order and the day, and clashes are found cell against cell.
 * A call answers a Long (a boolean counts 1 or 0) or the name of the exception that is due.
 */
final class PlainModel {
    private static final String INDEX = "IndexOutOfBoundsException";
    private static final String ARGUMENT = "IllegalArgumentException";
    private static final String STATE = "IllegalStateException";

    private static final class Item {
        int kind;
        int storey;
        List<int[]> cells = new ArrayList<>();
        int revision;
        int trade;
        boolean removed;
        boolean built;
        int orderDay = -1;
        int lead;
    }

    private final List<Item> items = new ArrayList<>();
    private final int[][] clearance = new int[3][3];
    private final int[] size = {3, 3, 3};
    private final int[] lead = {5, 5, 5};
    private final List<Integer> lockedStoreys = new ArrayList<>();
    private int revision = 0;
    private int day = 0;

    Object call(String name, int[] a) {
        switch (name) {
            case "add": return add(a[0], a[1], a[2], a[3], a[4], a[5]);
            case "move": return move(a[0], a[1], a[2], a[3], a[4]);
            case "remove": return remove(a[0], a[1], a[2]);
            case "clear": return clear(a[0], a[1], a[2]);
            case "part": return told(size, a[0], a[1], 1, 12);
            case "lead": return told(lead, a[0], a[1], 0, 100);
            case "order": return order(a[0]);
            case "cancel": return cancel(a[0]);
            case "build": return build(a[0]);
            case "inspect": return inspect(a[0]);
            case "pass": return pass(a[0]);
            case "day": return (long) day;
            case "revision": return (long) revision;
            case "elementOf": return elementOf(a[0], a[1]);
            case "clash": return isItem(a[0]) && isItem(a[1]) ? bit(clashing(a[0], a[1])) : INDEX;
            case "clashes": return clashes(a[0]);
            case "isStopped": return isStopped(a[0], a[1]);
            case "parts": return partsIn(a[0], 0);
            case "partsAnew": return partsIn(a[0], 0);
            case "ordered": return partsIn(a[0], 1);
            case "kindsAt": return kindsAt(a[0], a[1], a[2]);
            case "isLocked": return below(a[0], 4) ? bit(lockedStoreys.contains(a[0])) : INDEX;
            default: throw new AssertionError(name);
        }
    }

    int items() {
        return items.size();
    }

    int revisionNow() {
        return revision;
    }

    int stateOf(int number) {
        Item item = items.get(number);
        if (item.removed) {
            return 4;
        }
        if (item.built) {
            return 3;
        }
        if (item.orderDay < 0) {
            return 0;
        }
        return day - item.orderDay >= item.lead ? 2 : 1;
    }

    private static boolean below(int value, int end) {
        return value >= 0 && value < end;
    }

    private static long bit(boolean yes) {
        return yes ? 1L : 0L;
    }

    private boolean isItem(int number) {
        return below(number, items.size());
    }

    private Object add(int trade, int storey, int fromX, int fromY, int toX, int toY) {
        if (!below(trade, 3) || !below(storey, 4)) {
            return INDEX;
        }
        for (int at : new int[] {fromX, fromY, toX, toY}) {
            if (!below(at, 12)) {
                return ARGUMENT;
            }
        }
        if (fromX != toX && fromY != toY) {
            return ARGUMENT;
        }
        if (lockedStoreys.contains(storey) || items.size() == 40) {
            return STATE;
        }
        Item item = new Item();
        item.kind = trade;
        item.storey = storey;
        int stepX = Integer.signum(toX - fromX);
        int stepY = Integer.signum(toY - fromY);
        for (int x = fromX, y = fromY; ; x += stepX, y += stepY) {
            item.cells.add(new int[] {x, y});
            if (x == toX && y == toY) {
                break;
            }
        }
        item.revision = ++revision;
        item.trade = trade;
        items.add(item);
        return items.size() - 1L;
    }

    private Object move(int trade, int base, int number, int byX, int byY) {
        if (!below(trade, 3) || !isItem(number)) {
            return INDEX;
        }
        if (!below(base, revision + 1) || Math.abs((long) byX) > 11 || Math.abs((long) byY) > 11) {
            return ARGUMENT;
        }
        Item item = items.get(number);
        for (int[] cell : item.cells) {
            if (!below(cell[0] + byX, 12) || !below(cell[1] + byY, 12)) {
                return ARGUMENT;
            }
        }
        if (stateOf(number) != 0) {
            return STATE;
        }
        boolean conflict = item.revision > base && item.trade != trade;
        if (conflict && !(trade < item.trade)) {
            return 0L;
        }
        for (int[] cell : item.cells) {
            cell[0] += byX;
            cell[1] += byY;
        }
        item.revision = ++revision;
        item.trade = trade;
        return 1L;
    }

    private Object remove(int trade, int base, int number) {
        if (!below(trade, 3) || !isItem(number)) {
            return INDEX;
        }
        if (!below(base, revision + 1)) {
            return ARGUMENT;
        }
        if (stateOf(number) != 0) {
            return STATE;
        }
        Item item = items.get(number);
        item.removed = true;
        item.revision = ++revision;
        item.trade = trade;
        return 1L;
    }

    private Object clear(int kind, int other, int cells) {
        if (!below(kind, 3) || !below(other, 3)) {
            return INDEX;
        }
        if (!below(cells, 4)) {
            return ARGUMENT;
        }
        long before = clearance[kind][other];
        clearance[kind][other] = cells;
        clearance[other][kind] = cells;
        return before;
    }

    private static Object told(int[] of, int kind, int value, int least, int most) {
        if (!below(kind, 3)) {
            return INDEX;
        }
        if (value < least || value > most) {
            return ARGUMENT;
        }
        long before = of[kind];
        of[kind] = value;
        return before;
    }

    private Object order(int number) {
        if (!isItem(number)) {
            return INDEX;
        }
        if (stateOf(number) != 0) {
            return STATE;
        }
        Item item = items.get(number);
        item.orderDay = day;
        item.lead = lead[item.kind];
        return partsOf(item);
    }

    private Object cancel(int number) {
        if (!isItem(number)) {
            return INDEX;
        }
        if (stateOf(number) != 1) {
            return STATE;
        }
        Item item = items.get(number);
        long left = item.lead - (day - item.orderDay);
        item.orderDay = -1;
        return left;
    }

    private Object build(int number) {
        if (!isItem(number)) {
            return INDEX;
        }
        if (stateOf(number) != 2) {
            return STATE;
        }
        items.get(number).built = !clashesAtAll(number);
        return bit(items.get(number).built);
    }

    private Object inspect(int storey) {
        if (!below(storey, 4)) {
            return INDEX;
        }
        if (lockedStoreys.contains(storey)) {
            return STATE;
        }
        int standing = 0;
        int built = 0;
        for (int number = 0; number < items.size(); number++) {
            if (items.get(number).storey == storey && stateOf(number) != 4) {
                standing++;
                built += stateOf(number) == 3 ? 1 : 0;
            }
        }
        boolean passes = standing > 0 && built == standing && clashes(storey).equals(0L);
        if (passes) {
            lockedStoreys.add(storey);
        }
        return bit(passes);
    }

    private Object pass(int days) {
        if (days < 1 || days > 100) {
            return ARGUMENT;
        }
        if (day + days > 500) {
            return STATE;
        }
        day += days;
        return (long) day;
    }

    private Object elementOf(int number, int what) {
        if (!isItem(number)) {
            return INDEX;
        }
        if (!below(what, 10)) {
            return ARGUMENT;
        }
        Item item = items.get(number);
        int[] first = item.cells.get(0);
        int[] last = item.cells.get(item.cells.size() - 1);
        int[] all = {item.kind, item.storey, first[0], first[1], last[0], last[1], stateOf(number),
            item.revision, item.trade, item.cells.size()};
        return (long) all[what];
    }

    private boolean clashing(int number, int otherNumber) {
        Item one = items.get(number);
        Item other = items.get(otherNumber);
        if (number == otherNumber || one.storey != other.storey || one.removed || other.removed) {
            return false;
        }
        for (int[] cell : one.cells) {
            for (int[] away : other.cells) {
                int far = Math.max(Math.abs(cell[0] - away[0]), Math.abs(cell[1] - away[1]));
                if (far < clearance[one.kind][other.kind]) {
                    return true;
                }
            }
        }
        return false;
    }

    private boolean clashesAtAll(int number) {
        for (int other = 0; other < items.size(); other++) {
            if (clashing(number, other)) {
                return true;
            }
        }
        return false;
    }

    private Object clashes(int storey) {
        if (!below(storey, 4)) {
            return INDEX;
        }
        long ends = 0;
        for (int number = 0; number < items.size(); number++) {
            for (int other = 0; other < items.size(); other++) {
                ends += items.get(number).storey == storey && clashing(number, other) ? 1 : 0;
            }
        }
        return ends / 2;
    }

    private Object isStopped(int trade, int storey) {
        if (!below(trade, 3) || !below(storey, 4)) {
            return INDEX;
        }
        for (int number = 0; number < items.size(); number++) {
            Item item = items.get(number);
            if (item.kind == trade && item.storey == storey && clashesAtAll(number)) {
                return 1L;
            }
        }
        return 0L;
    }

    private long partsOf(Item item) {
        int cells = item.cells.size();
        return cells / size[item.kind] + (cells % size[item.kind] == 0 ? 0 : 1);
    }

    private Object partsIn(int kind, int leastState) {
        if (!below(kind, 3)) {
            return INDEX;
        }
        long sum = 0;
        for (int number = 0; number < items.size(); number++) {
            int state = stateOf(number);
            sum += items.get(number).kind == kind && state != 4 && state >= leastState
                ? partsOf(items.get(number)) : 0;
        }
        return sum;
    }

    private Object kindsAt(int storey, int x, int y) {
        if (!below(storey, 4)) {
            return INDEX;
        }
        if (!below(x, 12) || !below(y, 12)) {
            return ARGUMENT;
        }
        boolean[] found = new boolean[3];
        for (Item item : items) {
            for (int[] cell : item.cells) {
                found[item.kind] |= item.storey == storey && !item.removed && cell[0] == x && cell[1] == y;
            }
        }
        return bit(found[0]) + 2 * bit(found[1]) + 4 * bit(found[2]);
    }
}
