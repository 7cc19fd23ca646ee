import java.util.ArrayList;
import java.util.List;
import java.util.function.Supplier;
import java.util.function.ToLongFunction;

/**
 * "REFUSALS change nothing", and asking changes nothing but for range(): of two objects made alike
 * one is called so; all that can be seen of them afterwards must be the same. What can be seen is
 * looked at in parts, each on objects of its own, so that none is used for more than 512 calls.
 */
public final class PointTreesRefusals {
    private static final long NOTHING = Long.MIN_VALUE;
    private static final long THROWN = Long.MIN_VALUE + 1;
    private static final int LEAST = Integer.MIN_VALUE;
    private static final int GREATEST = Integer.MAX_VALUE;
    private static final int FAR = 1000000;
    private static final int PARTS = 4;
    private static int wrong = 0;
    private static int calls = 0;

    private final String name;
    private final int d;
    private final int made;
    private final Supplier<PointTrees> maker;

    private PointTreesRefusals(String name, int d, int made, Supplier<PointTrees> maker) {
        this.name = name;
        this.d = d;
        this.made = made;
        this.maker = maker;
    }

    private static void complain(String text) {
        wrong++;
        System.out.println(text);
    }

    private static int put(PointTrees p, int i) {
        return p.thing(3 * i, 3 * i + i % 5, -i, i, 50 - i, 50);
    }

    private static int askAll(PointTrees p, int relation) {
        return p.range(relation, -FAR, FAR, -FAR, FAR, -FAR, FAR);
    }

    private List<Long> seenThings(PointTrees p) {
        List<Long> seen = new ArrayList<>();
        for (int t = 0; t < made; t++) {
            for (int i = 0; i < 2 * d; i++) {
                seen.add(p.end(t, i / 2, i % 2));
            }
        }
        seen.add((long) p.count());
        return seen;
    }

    private List<Long> seenTree(PointTrees p) {
        List<Long> seen = new ArrayList<>();
        for (int b = 0; b <= 31; b++) {
            for (int i = 0; i < 4; i++) {
                seen.add((long) p.block(b, i));
            }
            for (int i = 0; i < 2 * d; i++) {
                seen.add(p.bound(b, i / 2, i % 2));
            }
        }
        return seen;
    }

    private List<Long> seenAsked(PointTrees p) {
        List<Long> seen = new ArrayList<>();
        for (int k = 0; k <= made; k++) {
            seen.add((long) p.found(k));
        }
        for (int what = 0; what < 3; what++) {
            seen.add((long) p.told(what));
        }
        for (int k = 0; k <= made; k++) {
            seen.add((long) p.nearest(7, 7, 7, k));
            seen.add(p.distance(k, 7, 7, 7));
        }
        seen.add((long) p.pairs());
        return seen;
    }

    private List<Long> seenLater(PointTrees p) {
        List<Long> seen = new ArrayList<>();
        for (int relation = 0; relation < 4; relation++) {
            seen.add((long) p.range(relation, 5, 40, -10, 10, 30, 60));
            for (int what = 0; what < 3; what++) {
                seen.add((long) p.told(what));
            }
            seen.add((long) p.found(0));
        }
        seen.add((long) put(p, 1));
        seen.add((long) p.build());
        seen.add((long) askAll(p, 0));
        seen.add((long) p.told(2));
        seen.add((long) p.dimensions(d));
        return seen;
    }

    private List<Long> seen(PointTrees p, int part) {
        switch (part) {
            case 0:
                return seenThings(p);
            case 1:
                return seenTree(p);
            case 2:
                return seenAsked(p);
            default:
                return seenLater(p);
        }
    }

    /** The call answers so, and nothing is changed by it. */
    private void same(String call, long want, ToLongFunction<PointTrees> made) {
        for (int part = 0; part < PARTS; part++) {
            PointTrees called = maker.get();
            long got = made.applyAsLong(called);
            if (got != want) {
                complain(name + ": " + call + " answered " + got + ", due is " + want);
            }
            List<Long> after = seen(called, part);
            List<Long> without = seen(maker.get(), part);
            if (!after.equals(without)) {
                complain(name + ": " + call + " changed part " + part + " from\n  " + without + " to\n  " + after);
            }
        }
        calls++;
    }

    private void refusedDimensions() {
        for (int n : new int[] {LEAST, -1, 0, 4, GREATEST}) {
            same("dimensions(" + n + ")", -2, p -> p.dimensions(n));
        }
    }

    private void refusedBoxes() {
        int[][] spans = {{1, 0}, {-FAR - 1, 0}, {0, FAR + 1}, {LEAST, GREATEST}, {FAR + 1, FAR + 1}, {FAR, -FAR}};
        for (int axis = 0; axis < d; axis++) {
            for (int[] span : spans) {
                int[] e = new int[6];
                e[2 * axis] = span[0];
                e[2 * axis + 1] = span[1];
                String text = span[0] + " to " + span[1] + " on " + axis;
                same("thing " + text, -2, p -> p.thing(e[0], e[1], e[2], e[3], e[4], e[5]));
                for (int relation = 0; relation < 4; relation++) {
                    int r = relation;
                    same("range " + r + " " + text, -2, p -> p.range(r, e[0], e[1], e[2], e[3], e[4], e[5]));
                }
            }
        }
        for (int relation : new int[] {LEAST, -1, 4, GREATEST}) {
            same("range " + relation, -2, p -> askAll(p, relation));
        }
        if (made == 64) {
            same("thing(..)", -4, p -> put(p, 0));
        }
    }

    private void refusedThings(int... notThere) {
        for (int t : notThere) {
            same("drop(" + t + ")", -1, p -> p.drop(t));
            same("end(" + t + ", 0, 0)", NOTHING, p -> p.end(t, 0, 0));
            same("distance(" + t + ", ..)", NOTHING, p -> p.distance(t, 0, 0, 0));
        }
    }

    private void refusedEnds(int thing, int block) {
        for (int axis : new int[] {LEAST, -1, d, 3, GREATEST}) {
            same("end on axis " + axis, NOTHING, p -> p.end(thing, axis, 0));
            same("bound on axis " + axis, NOTHING, p -> p.bound(block, axis, 0));
        }
        for (int side : new int[] {LEAST, -1, 2, GREATEST}) {
            same("end on side " + side, NOTHING, p -> p.end(thing, 0, side));
            same("bound on side " + side, NOTHING, p -> p.bound(block, 0, side));
        }
    }

    private void refusedBlocks(int blocks) {
        for (int b : new int[] {LEAST, -1, blocks, 31, GREATEST}) {
            for (int what : new int[] {LEAST, -1, 0, 4, GREATEST}) {
                same("block(" + b + ", " + what + ")", -1, p -> p.block(b, what));
            }
            same("bound(" + b + ", 0, 0)", NOTHING, p -> p.bound(b, 0, 0));
        }
        for (int what : new int[] {LEAST, -1, 4, GREATEST}) {
            same("block(last, " + what + ")", blocks > 0 ? -2 : -1, p -> p.block(blocks - 1, what));
        }
    }

    private void refusedNumbers(int found, int there) {
        for (int k : new int[] {LEAST, -1, found, 64, GREATEST}) {
            same("found(" + k + ")", -1, p -> p.found(k));
        }
        for (int what : new int[] {LEAST, -1, 3, GREATEST}) {
            same("told(" + what + ")", -2, p -> p.told(what));
        }
        for (int k : new int[] {LEAST, -1, there, 64, GREATEST}) {
            same("nearest(.., " + k + ")", -1, p -> p.nearest(0, 0, 0, k));
        }
    }

    private void refusedPlaces(int thing, int there) {
        for (int axis = 0; axis < d; axis++) {
            for (int at : new int[] {LEAST, -FAR - 1, FAR + 1, GREATEST}) {
                int x = axis == 0 ? at : 0;
                int y = axis == 1 ? at : 0;
                int z = axis == 2 ? at : 0;
                same("nearest of " + at, there > 0 ? -2 : -1, p -> p.nearest(x, y, z, 0));
                same("distance of " + at, NOTHING, p -> p.distance(thing, x, y, z));
            }
        }
    }

    private void refusedDays() {
        same("day(5, -1)", NOTHING, p -> p.day(5, -1));
        same("day(5, 0)", THROWN, p -> dayOrThrown(p, 5, 0));
        same("day(-1, 86400)", -1, p -> p.day(-1, 86400));
    }

    private static long dayOrThrown(PointTrees p, long time, long size) {
        try {
            return p.day(time, size);
        } catch (ArithmeticException e) {
            return THROWN;
        }
    }

    private void askedOnly(int thing) {
        PointTrees other = maker.get();
        long count = other.count();
        long pairs = other.pairs();
        long found = other.found(0);
        long told = other.told(1);
        long nearest = other.nearest(-3, 3, 3, 0);
        long distance = other.distance(thing, -3, 3, 3);
        long end = other.end(thing, 0, 1);
        long size = other.block(0, 1);
        long bound = other.bound(0, 0, 1);
        same("count()", count, p -> p.count());
        same("pairs()", pairs, p -> p.pairs());
        same("found(0)", found, p -> p.found(0));
        same("told(1)", told, p -> p.told(1));
        same("nearest(..)", nearest, p -> p.nearest(-3, 3, 3, 0));
        same("distance(..)", distance, p -> p.distance(thing, -3, 3, 3));
        same("end(..)", end, p -> p.end(thing, 0, 1));
        same("block(..)", size, p -> p.block(0, 1));
        same("bound(..)", bound, p -> p.bound(0, 0, 1));
    }

    private void all(int thing, int gone, int blocks, int found, int there) {
        refusedDimensions();
        refusedBoxes();
        refusedThings(LEAST, -1, gone, made, 64, GREATEST);
        refusedEnds(thing, Math.max(0, blocks - 1));
        refusedBlocks(blocks);
        refusedNumbers(found, there);
        refusedPlaces(thing, there);
        refusedDays();
        askedOnly(thing);
    }

    private static PointTrees things(int d, int n) {
        PointTrees p = new PointTrees();
        p.dimensions(d);
        for (int i = 0; i < n; i++) {
            put(p, i);
        }
        return p;
    }

    /** n THINGS in THE TREE but for the last two, which are LOOSE; 12 were found, of which THING 3 went. */
    private static PointTrees mixed(int d, int n) {
        PointTrees p = things(d, n - 2);
        p.build();
        put(p, n - 2);
        put(p, n - 1);
        p.range(0, 5, 40, -FAR, FAR, -FAR, FAR);
        p.drop(3);
        return p;
    }

    /** All 64 came and went, and the latest range() found all of them. */
    private static PointTrees emptied() {
        PointTrees p = things(1, 64);
        p.build();
        askAll(p, 0);
        for (int t = 0; t < 64; t++) {
            p.drop(t);
        }
        p.build();
        return p;
    }

    public static void main(String[] args) {
        new PointTreesRefusals("a new object", 1, 0, PointTrees::new).all(0, 0, 0, 0, 0);
        for (int d = 1; d <= 3; d++) {
            int n = d;
            new PointTreesRefusals("ten LOOSE, " + d, d, 10, () -> things(n, 10)).all(3, 10, 0, 0, 10);
            // THINGS 2 to 13 MEET 5 to 40 on x: 12 of them are found.
            new PointTreesRefusals("fifteen, " + d, d, 15, () -> mixed(n, 15)).all(4, 3, 7, 12, 14);
            new PointTreesRefusals("full, " + d, d, 64, () -> mixed(n, 64)).all(63, 3, 31, 12, 63);
        }
        new PointTreesRefusals("emptied", 1, 64, PointTreesRefusals::emptied).all(0, 63, 0, 64, 0);
        System.out.println(wrong == 0 ? calls + " calls changed nothing" : wrong + " faults of " + calls + " calls");
        if (wrong != 0) {
            System.exit(1);
        }
    }
}
