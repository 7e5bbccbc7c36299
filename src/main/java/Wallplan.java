/**
 * One model of a house that three trades edit: walls, pipes and wires with clearances, edits
 * merged by rule, parts lists, orders with lead times, clashes and inspections.
 */
public final class Wallplan {
    public static final int WALL = 0, PIPE = 1, WIRE = 2;
    public static final int DRAWN = 0, ORDERED = 1, DELIVERED = 2, BUILT = 3, REMOVED = 4;

    private static final int KINDS = 3;
    private static final int STOREYS = 4;
    private static final int SIDE = 12;
    private static final int MOST_ELEMENTS = 40;
    private static final int MOST_CLEARANCE = 3;
    private static final int MOST_PART_CELLS = 12;
    private static final int MOST_LEAD_DAYS = 100;
    private static final int MOST_DAYS_AT_ONCE = 100;
    private static final int LAST_DAY = 500;

    // An element's place in the row is its number; places that are not used yet hold null.
    private final Element[] elements = new Element[MOST_ELEMENTS];
    private int count = 0;
    private final int[] clearances = new int[KINDS * KINDS];
    private final int[] partCells = {3, 3, 3};
    private final int[] leadDays = {5, 5, 5};
    private final boolean[] locked = new boolean[STOREYS];
    private int latestRevision = 0;
    private int today = 0;

    public Wallplan() {
    }

    // ---- edits

    public int add(int trade, int storey, int fromX, int fromY, int toX, int toY)
            throws IndexOutOfBoundsException, IllegalArgumentException, IllegalStateException {
        if (!isKind(trade) || !isStorey(storey)) {
            throw new IndexOutOfBoundsException("no such trade or storey");
        }
        if (!isCell(fromX, fromY) || !isCell(toX, toY)) {
            throw new IllegalArgumentException("a cell is out of range");
        }
        if (fromX != toX && fromY != toY) {
            throw new IllegalArgumentException("the cells are in no column or row");
        }
        if (locked[storey]) {
            throw new IllegalStateException("the storey is locked");
        }
        int number = count;
        if (number < 0 || number >= elements.length) {
            throw new IllegalStateException("there are as many elements as there can be");
        }
        latestRevision++;
        elements[number] = new Element(trade, storey, fromX, fromY, toX, toY, latestRevision);
        count++;
        return number;
    }

    public boolean move(int trade, int base, int element, int byX, int byY)
            throws IndexOutOfBoundsException, IllegalArgumentException, IllegalStateException {
        Element moved = find(element);
        if (!isKind(trade) || moved == null) {
            throw new IndexOutOfBoundsException("no such trade or element");
        }
        if (!isBase(base)) {
            throw new IllegalArgumentException("the base is out of range");
        }
        if (!isStep(byX) || !isStep(byY) || !moved.staysInside(byX, byY)) {
            throw new IllegalArgumentException("the element would leave the storey");
        }
        if (moved.state != DRAWN) {
            throw new IllegalStateException("the element is not DRAWN");
        }
        if (losesAgainstLastChange(moved, trade, base)) {
            return false;
        }
        moved.shift(byX, byY);
        noteChange(moved, trade);
        return true;
    }

    public boolean remove(int trade, int base, int element)
            throws IndexOutOfBoundsException, IllegalArgumentException, IllegalStateException {
        Element removed = find(element);
        if (!isKind(trade) || removed == null) {
            throw new IndexOutOfBoundsException("no such trade or element");
        }
        if (!isBase(base)) {
            throw new IllegalArgumentException("the base is out of range");
        }
        if (removed.state != DRAWN) {
            throw new IllegalStateException("the element is not DRAWN");
        }
        // A removal wins against every change behind its base, so there is nothing to merge.
        removed.state = REMOVED;
        noteChange(removed, trade);
        return true;
    }

    public int clear(int kind, int other, int cells)
            throws IndexOutOfBoundsException, IllegalArgumentException {
        if (!isKind(kind) || !isKind(other)) {
            throw new IndexOutOfBoundsException("no such kind");
        }
        if (!isWithin(cells, 0, MOST_CLEARANCE)) {
            throw new IllegalArgumentException("the cells are out of range");
        }
        int before = clearances[kind * KINDS + other];
        clearances[kind * KINDS + other] = cells;
        clearances[other * KINDS + kind] = cells;
        return before;
    }

    // ---- orders, days

    public int part(int kind, int cells) throws IndexOutOfBoundsException, IllegalArgumentException {
        if (!isKind(kind)) {
            throw new IndexOutOfBoundsException("no such kind");
        }
        if (!isWithin(cells, 1, MOST_PART_CELLS)) {
            throw new IllegalArgumentException("the cells are out of range");
        }
        int before = partCells[kind];
        partCells[kind] = cells;
        return before;
    }

    public int lead(int kind, int days) throws IndexOutOfBoundsException, IllegalArgumentException {
        if (!isKind(kind)) {
            throw new IndexOutOfBoundsException("no such kind");
        }
        if (!isWithin(days, 0, MOST_LEAD_DAYS)) {
            throw new IllegalArgumentException("the days are out of range");
        }
        int before = leadDays[kind];
        leadDays[kind] = days;
        return before;
    }

    public int order(int element) throws IndexOutOfBoundsException, IllegalStateException {
        Element wanted = find(element);
        if (wanted == null) {
            throw new IndexOutOfBoundsException("no such element");
        }
        if (wanted.state != DRAWN) {
            throw new IllegalStateException("the element is not DRAWN");
        }
        wanted.state = ORDERED;
        wanted.deliveryDay = today + leadDaysOf(wanted.kind);
        wanted.deliverIfDue(today);
        return partsOf(wanted);
    }

    public int cancel(int element) throws IndexOutOfBoundsException, IllegalStateException {
        Element unwanted = find(element);
        if (unwanted == null) {
            throw new IndexOutOfBoundsException("no such element");
        }
        if (unwanted.state != ORDERED) {
            throw new IllegalStateException("the element is not ORDERED");
        }
        unwanted.state = DRAWN;
        return unwanted.deliveryDay - today;
    }

    public boolean build(int element) throws IndexOutOfBoundsException, IllegalStateException {
        Element built = find(element);
        if (built == null) {
            throw new IndexOutOfBoundsException("no such element");
        }
        if (built.state != DELIVERED) {
            throw new IllegalStateException("the element is not DELIVERED");
        }
        if (clashesWithAny(element)) {
            return false;
        }
        built.state = BUILT;
        return true;
    }

    public boolean inspect(int storey) throws IndexOutOfBoundsException, IllegalStateException {
        if (!isStorey(storey)) {
            throw new IndexOutOfBoundsException("no such storey");
        }
        if (locked[storey]) {
            throw new IllegalStateException("the storey is locked");
        }
        locked[storey] = isFinished(storey);
        return locked[storey];
    }

    public int pass(int days) throws IllegalArgumentException, IllegalStateException {
        if (!isWithin(days, 1, MOST_DAYS_AT_ONCE)) {
            throw new IllegalArgumentException("the days are out of range");
        }
        if (today + days > LAST_DAY) {
            throw new IllegalStateException("it would be above the last day");
        }
        today += days;
        for (int number = 0; number < count; number++) {
            Element one = find(number);
            if (one != null) {
                one.deliverIfDue(today);
            }
        }
        return today;
    }

    // ---- what is asked

    public int day() {
        return today;
    }

    public int revision() {
        return latestRevision;
    }

    public int elementOf(int element, int what)
            throws IndexOutOfBoundsException, IllegalArgumentException {
        Element asked = find(element);
        if (asked == null) {
            throw new IndexOutOfBoundsException("no such element");
        }
        switch (what) {
            case 0: return asked.kind;
            case 1: return asked.storey;
            case 2: return asked.fromX;
            case 3: return asked.fromY;
            case 4: return asked.toX;
            case 5: return asked.toY;
            case 6: return asked.state;
            case 7: return asked.changeRevision;
            case 8: return asked.changeTrade;
            case 9: return asked.cells();
            default: throw new IllegalArgumentException("what is asked is out of range");
        }
    }

    public boolean clash(int element, int other) throws IndexOutOfBoundsException {
        if (find(element) == null || find(other) == null) {
            throw new IndexOutOfBoundsException("no such element");
        }
        return isClashingPair(element, other);
    }

    public int clashes(int storey) throws IndexOutOfBoundsException {
        if (!isStorey(storey)) {
            throw new IndexOutOfBoundsException("no such storey");
        }
        int pairs = 0;
        for (int number = 0; number < count; number++) {
            if (isOnStorey(number, storey)) {
                pairs += clashesWithEarlier(number);
            }
        }
        return pairs;
    }

    public boolean isStopped(int trade, int storey) throws IndexOutOfBoundsException {
        if (!isKind(trade) || !isStorey(storey)) {
            throw new IndexOutOfBoundsException("no such trade or storey");
        }
        for (int number = 0; number < count; number++) {
            Element one = find(number);
            if (one != null && one.kind == trade && one.storey == storey && clashesWithAny(number)) {
                return true;
            }
        }
        return false;
    }

    public int parts(int kind) throws IndexOutOfBoundsException {
        if (!isKind(kind)) {
            throw new IndexOutOfBoundsException("no such kind");
        }
        return partsInStates(kind, DRAWN, BUILT);
    }

    public int partsAnew(int kind) throws IndexOutOfBoundsException {
        if (!isKind(kind)) {
            throw new IndexOutOfBoundsException("no such kind");
        }
        int sum = 0;
        for (int number = 0; number < count; number++) {
            Element one = find(number);
            if (one != null && one.kind == kind && one.isThere()) {
                sum += one.partsCellByCell(partCells[kind]);
            }
        }
        return sum;
    }

    public int ordered(int kind) throws IndexOutOfBoundsException {
        if (!isKind(kind)) {
            throw new IndexOutOfBoundsException("no such kind");
        }
        return partsInStates(kind, ORDERED, BUILT);
    }

    public int kindsAt(int storey, int x, int y)
            throws IndexOutOfBoundsException, IllegalArgumentException {
        if (!isStorey(storey)) {
            throw new IndexOutOfBoundsException("no such storey");
        }
        if (!isCell(x, y)) {
            throw new IllegalArgumentException("the cell is out of range");
        }
        int kinds = 0;
        for (int number = 0; number < count; number++) {
            Element one = find(number);
            if (one != null && one.storey == storey && one.isThere() && one.covers(x, y)) {
                kinds |= 1 << one.kind;
            }
        }
        return kinds;
    }

    public boolean isLocked(int storey) throws IndexOutOfBoundsException {
        if (!isStorey(storey)) {
            throw new IndexOutOfBoundsException("no such storey");
        }
        return locked[storey];
    }

    // ---- what is in range

    private static boolean isWithin(int value, int least, int most) {
        return value >= least && value <= most;
    }

    // A trade has the number of the kind that it makes, so this serves for both.
    private static boolean isKind(int kind) {
        return isWithin(kind, 0, KINDS - 1);
    }

    private static boolean isStorey(int storey) {
        return isWithin(storey, 0, STOREYS - 1);
    }

    private static boolean isCell(int x, int y) {
        return isWithin(x, 0, SIDE - 1) && isWithin(y, 0, SIDE - 1);
    }

    private static boolean isStep(int by) {
        return isWithin(by, 1 - SIDE, SIDE - 1);
    }

    private boolean isBase(int base) {
        return isWithin(base, 0, latestRevision);
    }

    // ---- elements and their edits

    /** Answers null if there is no such element. */
    private Element find(int number) {
        return isWithin(number, 0, elements.length - 1) ? elements[number] : null;
    }

    private boolean isOnStorey(int number, int storey) {
        Element one = find(number);
        return one != null && one.storey == storey;
    }

    // A higher number says both at once: another trade, and not one that goes ahead of the last.
    private static boolean losesAgainstLastChange(Element one, int trade, int base) {
        return one.changeRevision > base && trade > one.changeTrade;
    }

    private void noteChange(Element changed, int trade) {
        latestRevision++;
        changed.changeRevision = latestRevision;
        changed.changeTrade = trade;
    }

    // ---- clashes

    private boolean isClashingPair(int number, int otherNumber) {
        Element one = find(number);
        Element other = find(otherNumber);
        if (one == null || other == null || number == otherNumber) {
            return false;
        }
        return one.storey == other.storey && one.isThere() && other.isThere()
            && one.distanceTo(other) < clearanceOf(one.kind, other.kind);
    }

    private int clearanceOf(int kind, int other) {
        return isKind(kind) && isKind(other) ? clearances[kind * KINDS + other] : 0;
    }

    private boolean clashesWithAny(int number) {
        for (int other = 0; other < count; other++) {
            if (isClashingPair(number, other)) {
                return true;
            }
        }
        return false;
    }

    // Only those with a lower number, so that each pair is counted once.
    private int clashesWithEarlier(int number) {
        int pairs = 0;
        for (int earlier = 0; earlier < number; earlier++) {
            if (isClashingPair(number, earlier)) {
                pairs++;
            }
        }
        return pairs;
    }

    private boolean isFinished(int storey) {
        boolean hasElements = false;
        for (int number = 0; number < count; number++) {
            Element one = find(number);
            if (one != null && one.storey == storey && one.isThere()) {
                hasElements = true;
                if (one.state != BUILT || clashesWithAny(number)) {
                    return false;
                }
            }
        }
        return hasElements;
    }

    // ---- parts and lead times

    private int leadDaysOf(int kind) {
        return isKind(kind) ? leadDays[kind] : 0;
    }

    private int partsOf(Element one) {
        int size = isKind(one.kind) ? partCells[one.kind] : 0;
        return size > 0 ? (one.cells() + size - 1) / size : 0;
    }

    // The states are numbered in the order in which an element goes through them.
    private int partsInStates(int kind, int earliest, int latest) {
        int sum = 0;
        for (int number = 0; number < count; number++) {
            Element one = find(number);
            if (one != null && one.kind == kind && isWithin(one.state, earliest, latest)) {
                sum += partsOf(one);
            }
        }
        return sum;
    }

    /** A straight row of cells on a storey, and how far it has come. */
    private static final class Element {
        final int kind;
        final int storey;
        int fromX;
        int fromY;
        int toX;
        int toY;
        int state = DRAWN;
        int changeRevision;
        int changeTrade;
        int deliveryDay = 0;

        Element(int kind, int storey, int fromX, int fromY, int toX, int toY, int revision) {
            this.kind = kind;
            this.storey = storey;
            this.fromX = fromX;
            this.fromY = fromY;
            this.toX = toX;
            this.toY = toY;
            this.changeRevision = revision;
            this.changeTrade = kind;
        }

        boolean isThere() {
            return state != REMOVED;
        }

        // One of the differences is 0, as the cells are in one column or row.
        int cells() {
            return Math.abs(toX - fromX) + Math.abs(toY - fromY) + 1;
        }

        boolean covers(int x, int y) {
            return isWithin(x, Math.min(fromX, toX), Math.max(fromX, toX))
                && isWithin(y, Math.min(fromY, toY), Math.max(fromY, toY));
        }

        boolean staysInside(int byX, int byY) {
            return isCell(fromX + byX, fromY + byY) && isCell(toX + byX, toY + byY);
        }

        void shift(int byX, int byY) {
            fromX += byX;
            fromY += byY;
            toX += byX;
            toY += byY;
        }

        void deliverIfDue(int today) {
            if (state == ORDERED && today >= deliveryDay) {
                state = DELIVERED;
            }
        }

        // Two rows fill rectangles, so their nearest cells are as far as the wider of the gaps.
        int distanceTo(Element other) {
            int gapX = gap(fromX, toX, other.fromX, other.toX);
            int gapY = gap(fromY, toY, other.fromY, other.toY);
            return Math.max(gapX, gapY);
        }

        private static int gap(int from, int to, int otherFrom, int otherTo) {
            int ahead = Math.min(otherFrom, otherTo) - Math.max(from, to);
            int behind = Math.min(from, to) - Math.max(otherFrom, otherTo);
            return Math.max(0, Math.max(ahead, behind));
        }

        // Goes without a division, so that it can be held against the parts list.
        int partsCellByCell(int size) {
            int parts = 0;
            int left = 0;
            for (int y = 0; y < SIDE; y++) {
                for (int x = 0; x < SIDE; x++) {
                    if (covers(x, y)) {
                        if (left <= 0) {
                            parts++;
                            left = size;
                        }
                        left--;
                    }
                }
            }
            return parts;
        }
    }
}
