/** Views of rows of numbers by starts and steps. The promises are numbered in ../shared/DOC.md. */
public final class StrideViews {
    public static final int NONE = -1;

    private static final int MOST_STORES = 12;
    private static final int MOST_NUMBERS = 300;
    private static final int MOST_VIEWS = 80;
    private static final int MOST_AXES = 4;
    private static final int MOST_ITEMS = 3000;

    private static final int LANE_8 = 0;
    private static final int LANE_16 = 1;
    private static final int LANE_32 = 2;
    private static final int LANE_64 = 3;

    private static final int SUM = 0;
    private static final int DIFFERENCE = 1;
    private static final int PRODUCT = 2;
    private static final int GREATER = 3;
    private static final int LESSER = 4;

    private final Store[] stores = new Store[MOST_STORES];
    private final View[] views = new View[MOST_VIEWS];
    private int storesMade;
    private int viewsMade;

    // Made once and used again by every call, as what calls make is never given back.
    private final int[] places = new int[MOST_ITEMS];
    private final long[] numbers = new long[MOST_ITEMS];
    private final boolean[] marks = new boolean[MOST_NUMBERS];

    public StrideViews() {
        storesMade = 0;
        viewsMade = 0;
    }

    public int store(int lane, int n) throws IllegalArgumentException, IllegalStateException {
        needLane(lane);
        if (n < 0 || n > MOST_NUMBERS) {
            throw new IllegalArgumentException("a store has 0 to 300 numbers");
        }
        needRoomForStore();
        Store made = new Store(storesMade, lane, n);
        View all = new View(made, 0);
        all.insert(0, n, 1);
        keepStore(made);
        return keepView(all);
    }

    public int slice(int view, int axis, int start, int step, int n)
            throws IndexOutOfBoundsException, IllegalArgumentException, IllegalStateException {
        View from = viewAt(view);
        needAxis(from, axis);
        needPart(from.extents[axis], start, step, n);
        View part = from.twin();
        part.start += start * from.steps[axis];
        part.extents[axis] = n;
        part.steps[axis] = step * from.steps[axis];
        return keepView(part);
    }

    public int pick(int view, int axis, int index) throws IndexOutOfBoundsException, IllegalStateException {
        View from = viewAt(view);
        needAxis(from, axis);
        if (index < 0 || index >= from.extents[axis]) {
            throw new IndexOutOfBoundsException("no such index along the axis");
        }
        View rest = from.twin();
        rest.start += index * from.steps[axis];
        rest.remove(axis);
        return keepView(rest);
    }

    public int turn(int view, int a, int b) throws IndexOutOfBoundsException, IllegalStateException {
        View from = viewAt(view);
        needAxis(from, a);
        needAxis(from, b);
        View turned = from.twin();
        turned.extents[a] = from.extents[b];
        turned.steps[a] = from.steps[b];
        turned.extents[b] = from.extents[a];
        turned.steps[b] = from.steps[a];
        return keepView(turned);
    }

    public int spread(int view, int axis, int n)
            throws IndexOutOfBoundsException, IllegalArgumentException, IllegalStateException {
        View from = viewAt(view);
        if (axis < 0 || axis > from.axes) {
            throw new IndexOutOfBoundsException("no such place for an axis");
        }
        if (n < 0) {
            throw new IllegalArgumentException("an extent below 0");
        }
        if (from.axes >= MOST_AXES) {
            throw new IllegalStateException("the view has four axes");
        }
        View wide = from.twin();
        wide.insert(axis, n, 0);
        return keepView(wide);
    }

    public int diagonal(int view, int a, int b)
            throws IndexOutOfBoundsException, IllegalArgumentException, IllegalStateException {
        View from = viewAt(view);
        needAxis(from, a);
        needAxis(from, b);
        if (a == b) {
            throw new IllegalArgumentException("the two axes are one");
        }
        View joined = from.twin();
        // The later one goes first, so that the number of the other one still holds.
        joined.remove(Math.max(a, b));
        joined.remove(Math.min(a, b));
        joined.insert(joined.axes, Math.min(from.extents[a], from.extents[b]), from.steps[a] + from.steps[b]);
        return keepView(joined);
    }

    public int shape(int view, int a, int b, int c)
            throws IndexOutOfBoundsException, IllegalArgumentException, IllegalStateException {
        View from = viewAt(view);
        if (a < NONE || b < NONE || c < NONE) {
            throw new IllegalArgumentException("an extent below NONE");
        }
        View other = new View(from.store, from.start);
        other.addUnlessNone(a);
        other.addUnlessNone(b);
        other.addUnlessNone(c);
        other.settle();
        if (other.items != from.items) {
            throw new IllegalArgumentException("the extents make another number of items");
        }
        layOut(from, from);
        guessSteps(other);
        if (!liesAsLaidOut(other)) {
            throw new IllegalStateException("there are no such steps");
        }
        return keepView(other);
    }

    public int compact(int view, int lane)
            throws IndexOutOfBoundsException, IllegalArgumentException, IllegalStateException {
        View from = viewAt(view);
        needLane(lane);
        needFewNumbers(from.items);
        needRoomForStore();
        Store made = new Store(storesMade, lane, from.items);
        View row = new View(made, 0);
        row.addExtentsBut(from, NONE);
        row.lieInOrder();
        readItems(from, from);
        keepStore(made);
        int number = keepView(row);
        writeItems(row);
        return number;
    }

    public long at(int view, int i) throws IndexOutOfBoundsException {
        View from = viewAt(view);
        needItem(from, i);
        return from.store.row[from.placeOf(i)];
    }

    public long put(int view, int i, long v) throws IndexOutOfBoundsException, IllegalStateException {
        View to = viewAt(view);
        needItem(to, i);
        needFree(to);
        int place = to.placeOf(i);
        long before = to.store.row[place];
        to.store.row[place] = to.store.lowestBits(v);
        return before;
    }

    public int copy(int from, int to)
            throws IndexOutOfBoundsException, IllegalArgumentException, IllegalStateException {
        View source = viewAt(from);
        View target = viewAt(to);
        needGoing(source, target);
        needFree(target);
        readItems(source, target);
        return writeItems(target);
    }

    public int act(int act, int a, int b, int to)
            throws IndexOutOfBoundsException, IllegalArgumentException, IllegalStateException {
        View first = viewAt(a);
        View second = viewAt(b);
        View target = viewAt(to);
        if (act < SUM || act > LESSER) {
            throw new IllegalArgumentException("no such act");
        }
        needGoing(first, target);
        needGoing(second, target);
        needFree(target);
        readItems(first, target);
        layOut(second, target);
        for (int i = 0; i < target.items; i++) {
            numbers[i] = reckon(act, numbers[i], second.store.row[places[i]]);
        }
        return writeItems(target);
    }

    public int fold(int act, int view, int axis)
            throws IndexOutOfBoundsException, IllegalArgumentException, IllegalStateException {
        View from = viewAt(view);
        needAxis(from, axis);
        if (act < SUM || act > LESSER || act == DIFFERENCE) {
            throw new IllegalArgumentException("no such act for a fold");
        }
        int n = from.itemsBut(axis);
        needFewNumbers(n);
        needRoomForStore();
        Store made = new Store(storesMade, LANE_64, n);
        View folded = new View(made, 0);
        folded.addExtentsBut(from, axis);
        folded.lieInOrder();
        foldInto(made, act, from, folded, axis);
        keepStore(made);
        return keepView(folded);
    }

    public int shared(int a, int b) throws IndexOutOfBoundsException {
        View first = viewAt(a);
        View second = viewAt(b);
        if (first.store != second.store) {
            return 0;
        }
        clearMarks();
        layOut(first, first);
        for (int i = 0; i < first.items; i++) {
            marks[places[i]] = true;
        }
        layOut(second, second);
        int both = 0;
        for (int i = 0; i < second.items; i++) {
            if (marks[places[i]]) {
                both++;
                marks[places[i]] = false;
            }
        }
        return both;
    }

    public boolean same(int a, int b) throws IndexOutOfBoundsException {
        View first = viewAt(a);
        View second = viewAt(b);
        if (!first.hasExtentsOf(second)) {
            return false;
        }
        readItems(first, first);
        layOut(second, second);
        for (int i = 0; i < second.items; i++) {
            if (numbers[i] != second.store.row[places[i]]) {
                return false;
            }
        }
        return true;
    }

    public int runs(int view) throws IndexOutOfBoundsException {
        View from = viewAt(view);
        layOut(from, from);
        int begun = 0;
        for (int i = 0; i < from.items; i++) {
            if (i == 0 || places[i] != places[i - 1] + 1) {
                begun++;
            }
        }
        return begun;
    }

    public int told(int view, int what) throws IndexOutOfBoundsException, IllegalArgumentException {
        View from = viewAt(view);
        switch (what) {
            case 0:
                return from.store.number;
            case 1:
                return from.start;
            case 2:
                return from.axes;
            case 3:
                return from.items;
            case 4:
                return from.isFixed() ? 1 : 0;
            case 5:
                return from.leastPlace();
            case 6:
                return from.greatestPlace();
            default:
                throw new IllegalArgumentException("nothing of a view has this number");
        }
    }

    public int axis(int view, int axis, int what) throws IndexOutOfBoundsException, IllegalArgumentException {
        View from = viewAt(view);
        needAxis(from, axis);
        switch (what) {
            case 0:
                return from.extents[axis];
            case 1:
                return from.steps[axis];
            default:
                throw new IllegalArgumentException("nothing of an axis has this number");
        }
    }

    public int stored(int store, int what) throws IndexOutOfBoundsException, IllegalArgumentException {
        if (store < 0 || store >= storesMade) {
            throw new IndexOutOfBoundsException("no such store");
        }
        switch (what) {
            case 0:
                return stores[store].lane;
            case 1:
                return stores[store].row.length;
            case 2:
                return stores[store].viewsOfIt;
            default:
                throw new IllegalArgumentException("nothing of a store has this number");
        }
    }

    public int count(int what) throws IllegalArgumentException {
        switch (what) {
            case 0:
                return storesMade;
            case 1:
                return viewsMade;
            default:
                throw new IllegalArgumentException("nothing that is counted has this number");
        }
    }

    private View viewAt(int view) {
        if (view < 0 || view >= viewsMade) {
            throw new IndexOutOfBoundsException("no such view");
        }
        return views[view];
    }

    private static void needAxis(View view, int axis) {
        if (axis < 0 || axis >= view.axes) {
            throw new IndexOutOfBoundsException("no such axis");
        }
    }

    private static void needItem(View view, int i) {
        if (i < 0 || i >= view.items) {
            throw new IndexOutOfBoundsException("no such item");
        }
    }

    private static void needLane(int lane) {
        if (lane < LANE_8 || lane > LANE_64) {
            throw new IllegalArgumentException("no such lane");
        }
    }

    private static void needPart(int extent, int start, int step, int n) {
        if (n < 0 || step == 0) {
            throw new IllegalArgumentException("an extent below 0, or a step of 0");
        }
        // In 64 bits, as the last index may be far outside an int.
        long last = start + (n - 1L) * step;
        if (n > 0 && (start < 0 || start >= extent || last < 0 || last >= extent)) {
            throw new IllegalArgumentException("an index outside the axis");
        }
    }

    private static void needGoing(View view, View target) {
        if (!view.goesTo(target)) {
            throw new IllegalArgumentException("a view does not go to the other one");
        }
    }

    private static void needFree(View view) {
        if (view.isFixed()) {
            throw new IllegalStateException("the view is fixed");
        }
    }

    private static void needFewNumbers(int n) {
        if (n > MOST_NUMBERS) {
            throw new IllegalStateException("more than 300 items");
        }
    }

    private void needRoomForStore() {
        if (storesMade >= MOST_STORES || viewsMade >= MOST_VIEWS) {
            throw new IllegalStateException("too many stores or views");
        }
    }

    private void keepStore(Store made) {
        stores[storesMade] = made;
        storesMade++;
    }

    private int keepView(View made) {
        made.settle();
        if (viewsMade >= MOST_VIEWS || made.items > MOST_ITEMS) {
            throw new IllegalStateException("too many views or items");
        }
        views[viewsMade] = made;
        made.store.viewsOfIt++;
        viewsMade++;
        return viewsMade - 1;
    }

    /** Tells in places, for each item of a view that this one goes to, where this one's item lies. */
    private void layOut(View view, View target) {
        if (target.items == 0) {
            return;
        }
        places[0] = view.start;
        int done = 1;
        int lacking = target.axes - view.axes;
        for (int k = target.axes - 1; k >= 0; k--) {
            // An axis of the extent 1 has the step 0, so it stays where it is, as a lacking one does.
            int step = k < lacking ? 0 : view.steps[k - lacking];
            int end = done * target.extents[k];
            for (int i = done; i < end; i++) {
                places[i] = places[i - done] + step;
            }
            done = end;
        }
    }

    private void readItems(View view, View target) {
        layOut(view, target);
        for (int i = 0; i < target.items; i++) {
            numbers[i] = view.store.row[places[i]];
        }
    }

    private int writeItems(View target) {
        layOut(target, target);
        int others = 0;
        for (int i = 0; i < target.items; i++) {
            long kept = target.store.lowestBits(numbers[i]);
            if (target.store.row[places[i]] != kept) {
                others++;
            }
            target.store.row[places[i]] = kept;
        }
        return others;
    }

    /** The only steps that can be right: the first item behind each axis's index 0 tells its step. */
    private void guessSteps(View other) {
        // Without items all steps are 0, and a product of the extents may be more than an int holds.
        if (other.items == 0) {
            return;
        }
        int block = 1;
        for (int k = other.axes - 1; k >= 0; k--) {
            if (other.extents[k] > 1) {
                other.steps[k] = places[block] - places[0];
            }
            block *= other.extents[k];
        }
    }

    private boolean liesAsLaidOut(View other) {
        for (int i = 0; i < other.items; i++) {
            if (other.placeOf(i) != places[i]) {
                return false;
            }
        }
        return true;
    }

    private void foldInto(Store made, int act, View from, View folded, int axis) {
        for (int i = 0; i < made.row.length; i++) {
            made.row[i] = neutral(act);
        }
        readItems(from, from);
        // Spread along the folded axis, the result has an item for each one that goes into it.
        View again = folded.twin();
        again.insert(axis, from.extents[axis], 0);
        again.settle();
        layOut(again, again);
        for (int i = 0; i < again.items; i++) {
            made.row[places[i]] = reckon(act, made.row[places[i]], numbers[i]);
        }
    }

    private void clearMarks() {
        for (int i = 0; i < MOST_NUMBERS; i++) {
            marks[i] = false;
        }
    }

    private static long reckon(int act, long a, long b) {
        switch (act) {
            case SUM:
                return a + b;
            case DIFFERENCE:
                return a - b;
            case PRODUCT:
                return a * b;
            case GREATER:
                return Math.max(a, b);
            default:
                return Math.min(a, b);
        }
    }

    private static long neutral(int act) {
        switch (act) {
            case PRODUCT:
                return 1L;
            case GREATER:
                return Long.MIN_VALUE;
            case LESSER:
                return Long.MAX_VALUE;
            default:
                return 0L;
        }
    }

    private static final class Store {
        final int number;
        final int lane;
        final long[] row;
        int viewsOfIt;

        /** Wants a length of 0 to MOST_NUMBERS. */
        Store(int number, int lane, int n) {
            this.number = number;
            this.lane = lane;
            this.row = new long[n];
            this.viewsOfIt = 0;
        }

        long lowestBits(long v) {
            switch (lane) {
                case LANE_8:
                    return (byte) v;
                case LANE_16:
                    return (short) v;
                case LANE_32:
                    return (int) v;
                default:
                    return v;
            }
        }
    }

    /** A view in the making, until it is settled and knows its items; from then on it does not change. */
    private static final class View {
        final Store store;
        int start;
        int axes;
        int items;
        final int[] extents = new int[MOST_AXES];
        final int[] steps = new int[MOST_AXES];

        View(Store store, int start) {
            this.store = store;
            this.start = start;
            this.axes = 0;
            this.items = 0;
        }

        View twin() {
            View other = new View(store, start);
            for (int k = 0; k < axes; k++) {
                other.insert(k, extents[k], steps[k]);
            }
            return other;
        }

        /** Wants fewer than MOST_AXES axes, and a number of 0 to axes. */
        void insert(int axis, int extent, int step) {
            for (int k = axes; k > axis; k--) {
                extents[k] = extents[k - 1];
                steps[k] = steps[k - 1];
            }
            extents[axis] = extent;
            steps[axis] = step;
            axes++;
        }

        /** Wants the number of an axis. */
        void remove(int axis) {
            axes--;
            for (int k = axis; k < axes; k++) {
                extents[k] = extents[k + 1];
                steps[k] = steps[k + 1];
            }
        }

        void addUnlessNone(int extent) {
            if (extent != NONE) {
                insert(axes, extent, 0);
            }
        }

        /** Adds the axes of another view, but for one of them, or NONE. */
        void addExtentsBut(View other, int axis) {
            for (int k = 0; k < other.axes; k++) {
                if (k != axis) {
                    insert(axes, other.extents[k], 0);
                }
            }
        }

        /** Steps of a row of its own; without items they may be any, as settling makes them 0. */
        void lieInOrder() {
            int block = 1;
            for (int k = axes - 1; k >= 0; k--) {
                steps[k] = block;
                block *= extents[k];
            }
        }

        void settle() {
            items = itemsBut(NONE);
            for (int k = 0; k < axes; k++) {
                if (items == 0 || extents[k] < 2) {
                    steps[k] = 0;
                }
            }
            if (items == 0) {
                start = 0;
            }
        }

        /** How many items there are without an axis, or NONE: the greatest int stands for all above it. */
        int itemsBut(int axis) {
            long product = 1;
            for (int k = 0; k < axes; k++) {
                if (k != axis) {
                    // No end before the last one, as an extent of 0 may still come.
                    product = Math.min(product * extents[k], Integer.MAX_VALUE);
                }
            }
            return (int) product;
        }

        boolean isFixed() {
            for (int k = 0; k < axes; k++) {
                if (steps[k] == 0 && extents[k] >= 2) {
                    return true;
                }
            }
            return false;
        }

        boolean goesTo(View target) {
            int lacking = target.axes - axes;
            if (lacking < 0) {
                return false;
            }
            for (int k = 0; k < axes; k++) {
                if (extents[k] != 1 && extents[k] != target.extents[k + lacking]) {
                    return false;
                }
            }
            return true;
        }

        boolean hasExtentsOf(View other) {
            if (axes != other.axes) {
                return false;
            }
            for (int k = 0; k < axes; k++) {
                if (extents[k] != other.extents[k]) {
                    return false;
                }
            }
            return true;
        }

        int placeOf(int item) {
            int place = start;
            int rest = item;
            for (int k = axes - 1; k >= 0; k--) {
                int extent = extents[k];
                if (extent > 1) {
                    place += rest % extent * steps[k];
                    rest /= extent;
                }
            }
            return place;
        }

        int leastPlace() {
            if (items == 0) {
                return NONE;
            }
            int place = start;
            for (int k = 0; k < axes; k++) {
                place += Math.min(0, (extents[k] - 1) * steps[k]);
            }
            return place;
        }

        int greatestPlace() {
            if (items == 0) {
                return NONE;
            }
            int place = start;
            for (int k = 0; k < axes; k++) {
                place += Math.max(0, (extents[k] - 1) * steps[k]);
            }
            return place;
        }
    }
}
