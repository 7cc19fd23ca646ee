/**
 * Points and boxes of one to three dimensions, in a tree of blocks that is made by middles.
 * All rows are made with the object and used again: no call makes an object but the exception of day().
 */
public final class PointTrees {
    public static final long NOTHING = Long.MIN_VALUE;

    private static final int NO_SUCH = -1;
    private static final int OUTSIDE = -2;
    private static final int NO_ROOM = -4;

    private static final int MOST_AXES = 3;
    private static final int MOST_THINGS = 64;
    private static final int UNPARTED_THINGS = 4;
    // 64 THINGS are halved four times till no BLOCK has more than 4: 1 + 2 + 4 + 8 + 16 BLOCKS.
    private static final int DEEPEST = 4;
    private static final int MOST_BLOCKS = 31;
    private static final int FARTHEST = 1000000;

    private static final int MEETS_BOX = 0;
    private static final int WITHIN_BOX = 1;
    private static final int HOLDS_BOX = 2;
    private static final int APART = 3;

    private static final int NONE_SO = 0;
    private static final int ALL_SO = 1;
    private static final int UNSETTLED = 2;

    private static final int TOLD_OPENED = 0;
    private static final int TOLD_SETTLED = 1;
    private static final int TOLD_IN_SETTLED = 2;
    private static final int TOLD_KINDS = 3;

    private int axes;
    private int made;
    private int present;
    private final boolean[] isThere;
    private final Boxes things;

    private int blocks;
    // THINGS with this number and above came after the latest build(): they are LOOSE.
    private int firstLoose;
    // The THINGS of THE TREE, so that each BLOCK has a run of neighbours in it.
    private final int[] order;
    private final int[] blockFrom;
    private final int[] blockTo;
    private final int[] otherHalf;
    private final int[] blockDepth;
    private final Boxes bounds;

    private final Boxes asked;
    private final boolean[] isFound;
    private int foundCount;
    private final int[] toldCounts;
    private final long[] squares;

    public PointTrees() {
        axes = 1;
        isThere = new boolean[MOST_THINGS];
        things = new Boxes(MOST_THINGS);
        order = new int[MOST_THINGS];
        blockFrom = new int[MOST_BLOCKS];
        blockTo = new int[MOST_BLOCKS];
        otherHalf = new int[MOST_BLOCKS];
        blockDepth = new int[MOST_BLOCKS];
        bounds = new Boxes(MOST_BLOCKS);
        asked = new Boxes(1);
        isFound = new boolean[MOST_THINGS];
        toldCounts = new int[TOLD_KINDS];
        squares = new long[MOST_THINGS];
    }

    // ---- things

    public int dimensions(int d) {
        if (d < 1 || d > MOST_AXES) {
            return OUTSIDE;
        }
        int before = axes;
        axes = d;
        made = 0;
        present = 0;
        blocks = 0;
        firstLoose = 0;
        forgetAsked();
        return before;
    }

    public int thing(int x0, int x1, int y0, int y1, int z0, int z1) {
        if (!isBox(x0, x1, y0, y1, z0, z1)) {
            return OUTSIDE;
        }
        if (made >= MOST_THINGS) {
            return NO_ROOM;
        }
        int number = made;
        things.put(number, x0, x1, y0, y1, z0, z1);
        isThere[number] = true;
        made++;
        present++;
        return number;
    }

    public int drop(int thing) {
        if (!hasThing(thing)) {
            return NO_SUCH;
        }
        isThere[thing] = false;
        present--;
        return present;
    }

    public int count() {
        return present;
    }

    public long end(int thing, int axis, int side) {
        if (!hasThing(thing) || !hasEnd(axis, side)) {
            return NOTHING;
        }
        return things.at(thing, axis, side);
    }

    // ---- the tree

    public int build() {
        blocks = 0;
        firstLoose = made;
        int n = 0;
        for (int t = 0; t < made; t++) {
            if (isThere[t]) {
                order[n] = t;
                n++;
            }
        }
        makeBlock(0, n, 0);
        return blocks;
    }

    public int block(int b, int what) {
        if (!hasBlock(b)) {
            return NO_SUCH;
        }
        switch (what) {
            case 0:
                return isParted(b) ? 1 : 0;
            case 1:
                return blockTo[b] - blockFrom[b];
            case 2:
                return otherHalf[b];
            case 3:
                return blockDepth[b];
            default:
                return OUTSIDE;
        }
    }

    public long bound(int b, int axis, int side) {
        if (!hasBlock(b) || !hasEnd(axis, side)) {
            return NOTHING;
        }
        return bounds.at(b, axis, side);
    }

    // ---- asked

    public int range(int relation, int x0, int x1, int y0, int y1, int z0, int z1) {
        if (relation < MEETS_BOX || relation > APART || !isBox(x0, x1, y0, y1, z0, z1)) {
            return OUTSIDE;
        }
        asked.put(0, x0, x1, y0, y1, z0, z1);
        forgetAsked();
        askBlocks(relation);
        for (int t = firstLoose; t < made; t++) {
            askThing(t, relation);
        }
        return foundCount;
    }

    public int found(int k) {
        if (k < 0 || k >= foundCount) {
            return NO_SUCH;
        }
        int passed = 0;
        for (int t = 0; t < MOST_THINGS; t++) {
            if (isFound[t]) {
                if (passed == k) {
                    return t;
                }
                passed++;
            }
        }
        return NO_SUCH;
    }

    public int told(int what) {
        if (what < 0 || what >= TOLD_KINDS) {
            return OUTSIDE;
        }
        return toldCounts[what];
    }

    public int nearest(int x, int y, int z, int k) {
        if (k < 0 || k >= present) {
            return NO_SUCH;
        }
        if (!isPlace(x, y, z)) {
            return OUTSIDE;
        }
        for (int t = 0; t < made; t++) {
            squares[t] = things.squareTo(t, axes, x, y, z);
        }
        for (int t = 0; t < made; t++) {
            if (isThere[t] && nearerThan(t) == k) {
                return t;
            }
        }
        return NO_SUCH;
    }

    public long distance(int thing, int x, int y, int z) {
        if (!hasThing(thing) || !isPlace(x, y, z)) {
            return NOTHING;
        }
        return things.squareTo(thing, axes, x, y, z);
    }

    public int pairs() {
        int n = 0;
        for (int t = 0; t < made; t++) {
            for (int u = t + 1; u < made; u++) {
                if (isThere[t] && isThere[u] && Boxes.meet(things, t, things, u, axes)) {
                    n++;
                }
            }
        }
        return n;
    }

    // ---- times

    public long day(long time, long size) throws ArithmeticException {
        if (size == 0) {
            throw new ArithmeticException("a day of size 0");
        }
        if (size < 0) {
            return NOTHING;
        }
        return Math.floorDiv(time, size);
    }

    // ---- what there is

    private boolean hasThing(int thing) {
        return thing >= 0 && thing < made && isThere[thing];
    }

    private boolean hasBlock(int b) {
        return b >= 0 && b < blocks;
    }

    private boolean hasEnd(int axis, int side) {
        return axis >= 0 && axis < axes && (side == Boxes.LOW || side == Boxes.HIGH);
    }

    private boolean isBox(int x0, int x1, int y0, int y1, int z0, int z1) {
        return isSpan(x0, x1) && (axes < 2 || isSpan(y0, y1)) && (axes < 3 || isSpan(z0, z1));
    }

    private boolean isPlace(int x, int y, int z) {
        return isBox(x, x, y, y, z, z);
    }

    private static boolean isSpan(int low, int high) {
        return low >= -FARTHEST && high <= FARTHEST && low <= high;
    }

    private boolean isParted(int b) {
        return otherHalf[b] != 0;
    }

    // ---- the making of the tree

    private void makeBlock(int from, int to, int depth) {
        if (from >= to || depth > DEEPEST || blocks >= MOST_BLOCKS) {
            return;
        }
        int b = blocks;
        blocks++;
        blockFrom[b] = from;
        blockTo[b] = to;
        otherHalf[b] = 0;
        blockDepth[b] = depth;
        setBounds(b);
        if (to - from <= UNPARTED_THINGS) {
            return;
        }
        sortRun(from, to, widestAxis(from, to));
        int middle = from + (to - from + 1) / 2;
        makeBlock(from, middle, depth + 1);
        // The first half has taken its numbers by now, so the next free one is the other half's.
        otherHalf[b] = blocks;
        makeBlock(middle, to, depth + 1);
    }

    private void setBounds(int b) {
        bounds.copyFrom(b, things, order[blockFrom[b]]);
        for (int i = blockFrom[b] + 1; i < blockTo[b]; i++) {
            bounds.widen(b, things, order[i]);
        }
    }

    private int widestAxis(int from, int to) {
        int widest = 0;
        for (int axis = 1; axis < axes; axis++) {
            if (spread(from, to, axis) > spread(from, to, widest)) {
                widest = axis;
            }
        }
        return widest;
    }

    private int spread(int from, int to, int axis) {
        int least = things.sum(order[from], axis);
        int greatest = least;
        for (int i = from + 1; i < to; i++) {
            int sum = things.sum(order[i], axis);
            least = Math.min(least, sum);
            greatest = Math.max(greatest, sum);
        }
        return greatest - least;
    }

    private void sortRun(int from, int to, int axis) {
        for (int i = from + 1; i < to; i++) {
            for (int j = i; j > from && comesBefore(order[j], order[j - 1], axis); j--) {
                int later = order[j - 1];
                order[j - 1] = order[j];
                order[j] = later;
            }
        }
    }

    private boolean comesBefore(int thing, int other, int axis) {
        int sum = things.sum(thing, axis);
        int otherSum = things.sum(other, axis);
        return sum < otherSum || (sum == otherSum && thing < other);
    }

    // ---- the walk of range()

    private void forgetAsked() {
        for (int t = 0; t < MOST_THINGS; t++) {
            isFound[t] = false;
        }
        foundCount = 0;
        for (int i = 0; i < TOLD_KINDS; i++) {
            toldCounts[i] = 0;
        }
    }

    // A BLOCK's parts are the numbers behind its own, up to its end in the row of THINGS:
    // so a SETTLED BLOCK is left by passing over all that end no farther than it.
    private void askBlocks(int relation) {
        int doneTo = 0;
        for (int b = 0; b < blocks; b++) {
            if (blockTo[b] <= doneTo) {
                continue;
            }
            int verdict = verdictOn(b, relation);
            if (verdict != UNSETTLED) {
                toldCounts[TOLD_SETTLED]++;
                if (verdict == ALL_SO) {
                    findAllOf(b);
                }
                doneTo = blockTo[b];
                continue;
            }
            toldCounts[TOLD_OPENED]++;
            if (!isParted(b)) {
                askThingsOf(b, relation);
            }
        }
    }

    private int verdictOn(int b, int relation) {
        if (relation == HOLDS_BOX) {
            return Boxes.within(asked, 0, bounds, b, axes) ? UNSETTLED : NONE_SO;
        }
        if (!Boxes.meet(bounds, b, asked, 0, axes)) {
            return relation == APART ? ALL_SO : NONE_SO;
        }
        if (Boxes.within(bounds, b, asked, 0, axes)) {
            return relation == APART ? NONE_SO : ALL_SO;
        }
        return UNSETTLED;
    }

    private void findAllOf(int b) {
        for (int i = blockFrom[b]; i < blockTo[b]; i++) {
            if (isThere[order[i]]) {
                markFound(order[i]);
                toldCounts[TOLD_IN_SETTLED]++;
            }
        }
    }

    private void askThingsOf(int b, int relation) {
        for (int i = blockFrom[b]; i < blockTo[b]; i++) {
            askThing(order[i], relation);
        }
    }

    private void askThing(int t, int relation) {
        if (isThere[t] && isSo(t, relation)) {
            markFound(t);
        }
    }

    private void markFound(int t) {
        isFound[t] = true;
        foundCount++;
    }

    private boolean isSo(int t, int relation) {
        switch (relation) {
            case MEETS_BOX:
                return Boxes.meet(things, t, asked, 0, axes);
            case WITHIN_BOX:
                return Boxes.within(things, t, asked, 0, axes);
            case HOLDS_BOX:
                return Boxes.within(asked, 0, things, t, axes);
            default:
                return !Boxes.meet(things, t, asked, 0, axes);
        }
    }

    // ---- the nearest ones

    private int nearerThan(int thing) {
        int n = 0;
        for (int t = 0; t < made; t++) {
            if (isThere[t] && isNearer(t, thing)) {
                n++;
            }
        }
        return n;
    }

    private boolean isNearer(int thing, int other) {
        return squares[thing] < squares[other] || (squares[thing] == squares[other] && thing < other);
    }

    /** A row of boxes, all in one array so that a hundred boxes are not hundreds of objects. */
    private static final class Boxes {
        private static final int LOW = 0;
        private static final int HIGH = 1;
        private static final int SIDES = 2;
        private static final int ENDS = MOST_AXES * SIDES;

        private final int[] ends;

        private Boxes(int most) {
            ends = new int[most > 0 ? most * ENDS : 0];
        }

        private int at(int box, int axis, int side) {
            return ends[box * ENDS + axis * SIDES + side];
        }

        private void put(int box, int x0, int x1, int y0, int y1, int z0, int z1) {
            putSpan(box, 0, x0, x1);
            putSpan(box, 1, y0, y1);
            putSpan(box, 2, z0, z1);
        }

        private void putSpan(int box, int axis, int low, int high) {
            ends[box * ENDS + axis * SIDES + LOW] = low;
            ends[box * ENDS + axis * SIDES + HIGH] = high;
        }

        private void copyFrom(int box, Boxes others, int other) {
            for (int axis = 0; axis < MOST_AXES; axis++) {
                putSpan(box, axis, others.at(other, axis, LOW), others.at(other, axis, HIGH));
            }
        }

        private void widen(int box, Boxes others, int other) {
            for (int axis = 0; axis < MOST_AXES; axis++) {
                int low = Math.min(at(box, axis, LOW), others.at(other, axis, LOW));
                int high = Math.max(at(box, axis, HIGH), others.at(other, axis, HIGH));
                putSpan(box, axis, low, high);
            }
        }

        private int sum(int box, int axis) {
            return at(box, axis, LOW) + at(box, axis, HIGH);
        }

        private long squareTo(int box, int axes, int x, int y, int z) {
            long square = squareOnAxis(box, 0, x);
            if (axes > 1) {
                square += squareOnAxis(box, 1, y);
            }
            if (axes > 2) {
                square += squareOnAxis(box, 2, z);
            }
            return square;
        }

        private long squareOnAxis(int box, int axis, int place) {
            long below = (long) at(box, axis, LOW) - place;
            long above = (long) place - at(box, axis, HIGH);
            long gap = Math.max(0L, Math.max(below, above));
            return gap * gap;
        }

        private static boolean meet(Boxes some, int one, Boxes others, int other, int axes) {
            for (int axis = 0; axis < axes; axis++) {
                if (some.at(one, axis, LOW) > others.at(other, axis, HIGH)
                        || others.at(other, axis, LOW) > some.at(one, axis, HIGH)) {
                    return false;
                }
            }
            return true;
        }

        private static boolean within(Boxes some, int one, Boxes others, int other, int axes) {
            for (int axis = 0; axis < axes; axis++) {
                if (some.at(one, axis, LOW) < others.at(other, axis, LOW)
                        || some.at(one, axis, HIGH) > others.at(other, axis, HIGH)) {
                    return false;
                }
            }
            return true;
        }
    }
}
