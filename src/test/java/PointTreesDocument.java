import java.io.IOException;
import java.nio.file.Files;
import java.nio.file.Path;
import java.util.ArrayList;
import java.util.List;

/**
 * The document from its first sentence to its last: each that can be told by calls is quoted, and the
 * calls behind the quotation tell whether it holds. Where it can be so, the answer that is due is
 * found by counting places, days or steps, and not by a formula like the class's own.
 */
public final class PointTreesDocument {
    private static final Path DOCUMENT = Path.of("../shared/DOC.md");
    private static final long NOTHING = Long.MIN_VALUE;
    private static final int LEAST = Integer.MIN_VALUE;
    private static final int GREATEST = Integer.MAX_VALUE;
    private static final int FAR = 1000000;
    private static final int GRID = 4;

    private static final List<String> quoted = new ArrayList<>();
    private static final List<int[]> GRID_BOXES = gridBoxes();
    private static int wrong = 0;

    private static void sentence(String text) {
        quoted.add(text.replaceAll("\\s+", " ").trim());
    }

    /** What stands in the document but cannot be told by calls. */
    private static void notToldByCalls(String text) {
        sentence(text);
    }

    private static void complain(String text) {
        wrong++;
        if (wrong <= 50) {
            System.out.println(text);
        }
    }

    private static void due(String call, long got, long want) {
        if (got != want) {
            complain(call + " answered " + got + ", due is " + want + ": \"" + quoted.get(quoted.size() - 1) + "\"");
        }
    }

    private static void dueAll(String call, long[] got, long... want) {
        due(call + ": how many", got.length, want.length);
        for (int i = 0; i < Math.min(got.length, want.length); i++) {
            due(call + ": " + i, got[i], want[i]);
        }
    }

    private static long[] told(PointTrees p) {
        return new long[] {p.told(0), p.told(1), p.told(2)};
    }

    private static long[] block(PointTrees p, int b) {
        return new long[] {p.block(b, 0), p.block(b, 1), p.block(b, 2), p.block(b, 3)};
    }

    private static long[] bounds(PointTrees p, int b, int d) {
        long[] ends = new long[2 * d];
        for (int i = 0; i < ends.length; i++) {
            ends[i] = p.bound(b, i / 2, i % 2);
        }
        return ends;
    }

    /** The numbers that were found, up to the first refusal. */
    private static long[] found(PointTrees p) {
        int n = 0;
        while (n < 65 && p.found(n) != -1) {
            n++;
        }
        long[] numbers = new long[n];
        for (int k = 0; k < n; k++) {
            numbers[k] = p.found(k);
        }
        return numbers;
    }

    private static PointTrees space(int d) {
        PointTrees p = new PointTrees();
        p.dimensions(d);
        return p;
    }

    private static int line(PointTrees p, int low, int high) {
        return p.thing(low, high, 0, 0, 0, 0);
    }

    private static int askLine(PointTrees p, int relation, int low, int high) {
        return p.range(relation, low, high, 0, 0, 0, 0);
    }

    /** The points 0, 1, 2, .. of one axis, n of them. */
    private static PointTrees points(int n) {
        PointTrees p = new PointTrees();
        for (int i = 0; i < n; i++) {
            line(p, i, i);
        }
        return p;
    }

    /** All boxes x0, x1, y0, y1 of the places 0 to 3 on two axes. */
    private static List<int[]> gridBoxes() {
        List<int[]> all = new ArrayList<>();
        for (int i = 0; i < GRID * GRID * GRID * GRID; i++) {
            int[] box = {i % GRID, i / GRID % GRID, i / GRID / GRID % GRID, i / GRID / GRID / GRID};
            if (box[0] <= box[1] && box[2] <= box[3]) {
                all.add(box);
            }
        }
        return all;
    }

    private static boolean has(int[] box, int x, int y) {
        return x >= box[0] && x <= box[1] && y >= box[2] && y <= box[3];
    }

    private static int placesOfBoth(int[] a, int[] b) {
        int n = 0;
        for (int i = 0; i < GRID * GRID; i++) {
            n += has(a, i % GRID, i / GRID) && has(b, i % GRID, i / GRID) ? 1 : 0;
        }
        return n;
    }

    private static boolean meet(int[] a, int[] b) {
        return placesOfBoth(a, b) > 0;
    }

    private static boolean within(int[] a, int[] b) {
        return placesOfBoth(a, b) == placesOfBoth(a, a);
    }

    private static boolean isSo(int relation, int[] thing, int[] box) {
        boolean[] so = {meet(thing, box), within(thing, box), within(box, thing), !meet(thing, box)};
        return so[relation];
    }

    private static int put(PointTrees p, int[] box) {
        return p.thing(box[0], box[1], box[2], box[3], GREATEST, LEAST);
    }

    private static int ask(PointTrees p, int relation, int[] box) {
        return p.range(relation, box[0], box[1], box[2], box[3], GREATEST, LEAST);
    }

    // ---- What it is

    private static void whatItIs() {
        sentence("""
            Points and boxes of one to three dimensions, in a tree of blocks that is made by middles: which meet a box,
            lie in it, hold it or are apart from it, told by whole blocks where these tell enough; the nearest ones of a
            place, pairs that meet, days of times.""");
        for (int d = 1; d <= 3; d++) {
            PointTrees p = space(d);
            for (int i = 0; i < 6; i++) {
                p.thing(10 * i, 10 * i + 3 * i, 10 * i, 10 * i + 3 * i, 10 * i, 10 * i + 3 * i);
            }
            due("build()", p.build(), 3);
            due("meet", p.range(0, 0, 42, 0, 42, 0, 42), 5);
            dueAll("meet", told(p), 2, 1, 3);
            due("lie in", p.range(1, 0, 42, 0, 42, 0, 42), 4);
            due("hold", p.range(2, 50, 51, 50, 51, 50, 51), 2);
            due("are apart", p.range(3, 50, 51, 50, 51, 50, 51), 4);
            due("nearest", p.nearest(27, 27, 27, 0), 2);
            due("pairs", p.pairs(), 1);
            due("day", p.day(-1, 24), -1);
        }
    }

    private static void fiveHundredTwelveCalls() {
        sentence("""
            An object is used for at most 512 calls after it has been made; what later calls answer is free.""");
        PointTrees p = new PointTrees();
        due("call 1", p.dimensions(2), 1);
        for (int i = 0; i < 64; i++) {
            due("call " + (i + 2), p.thing(i, i, -i, -i, 0, 0), i);
        }
        due("call 66", p.build(), 31);
        for (int call = 67; call <= 512; call++) {
            int i = call * 7 % 64;
            if (call % 4 == 0) {
                due("call " + call, p.range(1, 0, i, -i, 0, 0, 0), i + 1);
            } else if (call % 4 == 1) {
                due("call " + call, p.nearest(i, -i, 0, 0), i);
            } else if (call % 4 == 2) {
                due("call " + call, p.distance(i, 0, 0, 0), 2L * i * i);
            } else {
                due("call " + call, p.end(i, 1, 0), -i);
            }
        }
    }

    // ---- Terms: things

    private static void dimensionsAndAxes() {
        sentence("DIMENSIONS are 1 (at first) to 3; axes 0, 1, 2 of them.");
        PointTrees p = new PointTrees();
        int[][] rows = {{0, -2}, {3, 1}, {4, -2}, {1, 3}, {2, 1}, {-1, -2}, {2, 2}};
        for (int[] row : rows) {
            due("dimensions(" + row[0] + ")", p.dimensions(row[0]), row[1]);
        }
        for (int d = 1; d <= 3; d++) {
            p.dimensions(d);
            p.thing(1, 1, 2, 2, 3, 3);
            for (int axis = -1; axis <= 3; axis++) {
                due("axis " + axis + " of " + d, p.end(0, axis, 0), axis >= 0 && axis < d ? axis + 1 : NOTHING);
            }
        }
    }

    private static void things() {
        sentence("""
            THINGS are boxes, numbered 0, 1, .. (64 at most since DIMENSIONS were told, also those that went): on each
            axis from LOW to HIGH, whole numbers of -1000000 to 1000000, LOW not above HIGH.""");
        PointTrees p = space(3);
        due("all at the ends", p.thing(-FAR, FAR, -FAR, -FAR, FAR, FAR), 0);
        int[][] refused = {{-FAR - 1, 0, 0, 0, 0, 0}, {0, FAR + 1, 0, 0, 0, 0}, {0, 0, -FAR - 1, 0, 0, 0},
            {0, 0, 0, FAR + 1, 0, 0}, {0, 0, 0, 0, -FAR - 1, 0}, {0, 0, 0, 0, 0, FAR + 1}, {1, 0, 0, 0, 0, 0},
            {0, 0, 1, 0, 0, 0}, {0, 0, 0, 0, 1, 0}};
        for (int[] e : refused) {
            due("refused", p.thing(e[0], e[1], e[2], e[3], e[4], e[5]), -2);
        }
        for (int i = 1; i < 64; i++) {
            due("one goes", p.drop(i - 1), 0);
            due("one comes", p.thing(i, i, i, i, i, i), i);
        }
        due("one of 64 is there, and there is no room", p.thing(0, 0, 0, 0, 0, 0), -4);
        due("it is the last one", p.end(63, 0, 0), 63);
        p.dimensions(3);
        due("since DIMENSIONS were told", p.thing(0, 0, 0, 0, 0, 0), 0);
    }

    private static void meetAndWithin() {
        sentence("""
            Two boxes MEET if they have a point together (ends belong to them); one is WITHIN another one if all its
            points are of that.""");
        for (int[] thing : GRID_BOXES) {
            PointTrees p = space(2);
            put(p, thing);
            for (int[] box : GRID_BOXES) {
                for (int relation = 0; relation < 4; relation++) {
                    due("RELATION " + relation, ask(p, relation, box), isSo(relation, thing, box) ? 1 : 0);
                }
            }
        }
    }

    // ---- Terms: the tree

    private static void treeAnew() {
        sentence("THE TREE has BLOCKS 0, 1, ..; build() makes it anew of the THINGS that are there.");
        PointTrees p = points(9);
        due("of nine", p.build(), 5);
        due("the last one", p.block(4, 1), 4);
        due("no more", p.block(5, 1), -1);
        p.drop(0);
        p.drop(8);
        line(p, 100, 100);
        due("of eight", p.build(), 3);
        dueAll("eight that are there", bounds(p, 0, 1), 1, 100);
        dueAll("the first half", bounds(p, 1, 1), 1, 4);
        dueAll("the other half", bounds(p, 2, 1), 5, 100);
        due("no more", p.block(3, 1), -1);
        for (int t = 1; t < 5; t++) {
            p.drop(t);
        }
        due("of four", p.build(), 1);
        dueAll("BLOCK 0 of four", block(p, 0), 0, 4, 0, 0);
    }

    private static void blockOfAll() {
        sentence("BLOCK 0 is of all of them (there is none without THINGS).");
        PointTrees p = points(0);
        for (int n = 0; n < 64; n++) {
            due("of " + n, p.build() == 0 ? 0 : 1, n == 0 ? 0 : 1);
            due("BLOCK 0 of " + n, p.block(0, 1), n == 0 ? -1 : n);
            due("its end", p.bound(0, 0, 1), n == 0 ? NOTHING : n - 1);
            line(p, n, n);
        }
    }

    private static void partedByMiddles() {
        sentence("""
            A BLOCK of more than 4 is PARTED: the axis is the one on which the greatest LOW + HIGH of its THINGS is
            farthest from the least (of several the first axis); by LOW + HIGH on it, of like ones by numbers, the first
            half of n THINGS, (n + 1) / 2, are one BLOCK, the others another one.""");
        for (int n = 1; n <= 8; n++) {
            PointTrees p = points(n);
            p.build();
            due("PARTED: " + n, p.block(0, 0), n > 4 ? 1 : 0);
            due("first half of " + n, p.block(1, 1), n > 4 ? (n + 1) / 2 : -1);
            due("other half of " + n, p.block(2, 1), n > 4 ? n / 2 : -1);
        }
        likeAxesAndLikeOnes();
        otherAxesInTheParts();
    }

    private static void likeAxesAndLikeOnes() {
        // LOW + HIGH on x: 10, 10, 10, 0, 40, 18, and on y: 0, 40, 16, 6, 0, 10: both 40 apart, so x.
        PointTrees p = space(2);
        int[][] boxes = {{0, 10, 0, 0}, {4, 6, 20, 20}, {5, 5, 8, 8}, {0, 0, 3, 3}, {20, 20, 0, 0}, {1, 17, 5, 5}};
        for (int[] box : boxes) {
            put(p, box);
        }
        p.build();
        dueAll("3, 0, 1", bounds(p, 1, 2), 0, 10, 0, 20);
        dueAll("2, 5, 4", bounds(p, 2, 2), 1, 20, 0, 8);
        // On x 10 and 60 more, on y 21 and -1: 60 apart on x, 41 on y.
        due("a seventh", p.thing(5, 5, 9, 12, 0, 0), 6);
        due("an eighth", p.thing(30, 30, -1, 0, 0, 0), 7);
        p.build();
        dueAll("by x: 3, 0, 1, 2", bounds(p, 1, 2), 0, 10, 0, 20);
        dueAll("by x: 6, 5, 4, 7", bounds(p, 2, 2), 1, 30, -1, 12);
        // Without 7 and 4 they are 18 apart on x and 40 on y.
        p.drop(7);
        p.drop(4);
        p.build();
        dueAll("by y: 0, 3, 5", bounds(p, 1, 2), 0, 17, 0, 5);
        dueAll("by y: 2, 6, 1", bounds(p, 2, 2), 4, 6, 8, 20);
    }

    private static void otherAxesInTheParts() {
        PointTrees p = space(3);
        for (int i = 0; i < 20; i++) {
            int x = i < 10 ? i : 990 + i;
            int step = 50 * (i * 7 % 10);
            p.thing(x, x, i < 10 ? step : 0, i < 10 ? step : 0, i < 10 ? 0 : step, i < 10 ? 0 : step);
        }
        due("of twenty", p.build(), 15);
        // By x into 0 to 9 and 10 to 19; these by y and z, where THING 3 * r % 10 is the r-th one.
        long[][] leaves = {{3, 0, 6, 0, 100}, {4, 2, 9, 150, 200}, {6, 1, 8, 250, 350}, {7, 4, 7, 400, 450}};
        for (long[] row : leaves) {
            int b = (int) row[0];
            dueAll("BLOCK " + b, bounds(p, b, 3), row[1], row[2], row[3], row[4], 0, 0);
            dueAll("BLOCK " + (b + 7), bounds(p, b + 7, 3), 1000 + row[1], 1000 + row[2], 0, 0, row[3], row[4]);
        }
    }

    private static void numbersOfBlocks() {
        sentence("BLOCKS are numbered: a BLOCK, all of the first half, all of the other half.");
        for (int n = 1; n <= 64; n++) {
            PointTrees p = points(n);
            int blocks = p.build();
            due("the last number of " + n, lastOf(p, n, 0, 0, 0), blocks - 1);
        }
        PointTrees p = points(9);
        p.build();
        long[][] rows = {{1, 9, 4, 0}, {1, 5, 3, 1}, {0, 3, 0, 2}, {0, 2, 0, 2}, {0, 4, 0, 1}};
        for (int b = 0; b < 5; b++) {
            dueAll("BLOCK " + b, block(p, b), rows[b]);
        }
    }

    private static void boundsOfBlocks() {
        sentence("BOUNDS of a BLOCK: on each axis the least LOW and greatest HIGH of its THINGS.");
        PointTrees p = space(3);
        p.thing(-7, 1, 2, 3, 0, 9);
        p.thing(-2, 8, -4, 2, 1, 1);
        p.thing(0, 0, 0, 6, -5, -5);
        p.build();
        dueAll("of three", bounds(p, 0, 3), -7, 8, -4, 6, -5, 9);
        p = points(40);
        p.build();
        dueAll("of all", bounds(p, 0, 1), 0, 39);
        dueAll("of the first half", bounds(p, 1, 1), 0, 19);
    }

    /** Walks the points from, from + 1, .. of BLOCK b, n of them: the last number that its parts have. */
    private static int lastOf(PointTrees p, int n, int b, int from, int depth) {
        dueAll("BLOCK " + b + " of " + n, bounds(p, b, 1), from, from + n - 1);
        if (n <= 4) {
            dueAll("BLOCK " + b + " of " + n, block(p, b), 0, n, 0, depth);
            return b;
        }
        int half = n - n / 2;
        int other = lastOf(p, half, b + 1, from, depth + 1) + 1;
        dueAll("BLOCK " + b + " of " + n, block(p, b), 1, n, other, depth);
        return lastOf(p, n - half, other, from + half, depth + 1);
    }

    private static void laterOnes() {
        sentence("""
            What is dropped later is looked at no more, but BLOCKS and BOUNDS stay; THINGS that come later are LOOSE
            till build(): looked at one by one.""");
        PointTrees p = points(8);
        p.build();
        p.drop(0);
        p.drop(7);
        line(p, 4, 4);
        line(p, 900, 900);
        due("BLOCK 0 stays", p.block(0, 1), 8);
        dueAll("BOUNDS stay", bounds(p, 0, 1), 0, 7);
        due("all but those that went", askLine(p, 0, 0, 7), 7);
        dueAll("numbers", found(p), 1, 2, 3, 4, 5, 6, 8);
        dueAll("whole BLOCKS", told(p), 0, 1, 6);
        due("one that is LOOSE", askLine(p, 0, 900, 900), 1);
        dueAll("no BLOCK has it", told(p), 0, 1, 0);
        p.drop(9);
        due("it went", askLine(p, 0, 900, 900), 0);
        due("of seven", p.build(), 3);
        dueAll("BOUNDS of seven", bounds(p, 0, 1), 1, 6);
        due("none is LOOSE", askLine(p, 0, 1, 6), 7);
        dueAll("none is LOOSE", told(p), 0, 1, 7);
    }

    // ---- Terms: relations and refusals

    private static void relations() {
        sentence("""
            RELATIONS of a THING to a box asked: 0 they MEET, 1 it is WITHIN the box, 2 the box is WITHIN it, 3 they do
            not MEET.""");
        PointTrees p = new PointTrees();
        int[][] spans = {{0, 9}, {3, 6}, {4, 5}, {0, 3}, {6, 9}, {0, 2}, {7, 9}};
        for (int[] span : spans) {
            line(p, span[0], span[1]);
        }
        for (int built = 0; built < 2; built++) {
            long[][] numbers = {{0, 1, 2, 3, 4}, {1, 2}, {0, 1}, {5, 6}};
            for (int relation = 0; relation < 4; relation++) {
                due("RELATION " + relation, askLine(p, relation, 3, 6), numbers[relation].length);
                dueAll("RELATION " + relation, found(p), numbers[relation]);
            }
            p.build();
        }
    }

    private static void settled() {
        sentence("""
            A BLOCK is SETTLED by a RELATION and a box: 0, 1: if its BOUNDS do not MEET the box (none of its THINGS is
            so), or are WITHIN it (all are); 2: if the box is not WITHIN its BOUNDS (none); 3: if its BOUNDS do not MEET
            the box (all), or are WITHIN it (none).""");
        for (int[] bounds : GRID_BOXES) {
            for (int relation = 0; relation < 4; relation++) {
                settledOfTwo(bounds, relation);
            }
        }
    }

    /** A BLOCK of two points, the corners of its BOUNDS, asked for all boxes. */
    private static void settledOfTwo(int[] bounds, int relation) {
        int[] low = {bounds[0], bounds[0], bounds[2], bounds[2]};
        int[] high = {bounds[1], bounds[1], bounds[3], bounds[3]};
        PointTrees p = space(2);
        put(p, low);
        put(p, high);
        p.build();
        for (int[] box : GRID_BOXES) {
            boolean apart = !meet(bounds, box);
            boolean inside = within(bounds, box);
            boolean settled = relation == 2 ? !within(box, bounds) : apart || inside;
            boolean all = relation == 3 ? apart : relation != 2 && inside;
            int one = isSo(relation, low, box) ? 1 : 0;
            int other = isSo(relation, high, box) ? 1 : 0;
            due("RELATION " + relation, ask(p, relation, box), one + other);
            dueAll("RELATION " + relation, told(p), settled ? 0 : 1, settled ? 1 : 0, all ? 2 : 0);
        }
    }

    private static void opened() {
        sentence("""
            range() begins with BLOCK 0: what is SETTLED is not looked into; others are OPENED: both parts are looked at
            so, or, if it is not PARTED, its THINGS.""");
        PointTrees p = points(16);
        p.build();
        // BLOCKS 0 of 16, 1 and 4 of 8, 2, 3, 5, 6 of 4. Asked: LOW, HIGH, found; OPENED, SETTLED, found in these.
        int[][] rows = {{0, 15, 16, 0, 1, 16}, {0, 7, 8, 1, 2, 8}, {0, 3, 4, 2, 3, 4}, {1, 15, 15, 3, 2, 12},
            {1, 14, 14, 5, 2, 8}, {4, 11, 8, 3, 4, 8}, {5, 5, 1, 3, 2, 0}, {7, 8, 2, 5, 2, 0}, {16, 20, 0, 0, 1, 0}};
        for (int[] row : rows) {
            due("of sixteen", askLine(p, 0, row[0], row[1]), row[2]);
            dueAll("of sixteen", told(p), row[3], row[4], row[5]);
        }
    }

    private static void refusals() {
        sentence("""
            REFUSALS change nothing; of several the first one here: -1 there is no such THING, BLOCK, axis, number, -2
            outside its bounds, -4 no room.""");
        PointTrees p = points(64);
        p.build();
        askLine(p, 0, 10, 12);
        due("-2 ahead of -4", line(p, 1, 0), -2);
        due("-4", line(p, 0, 0), -4);
        due("-1 ahead of -2", p.block(31, 4), -1);
        due("-2", p.block(30, 4), -2);
        due("-1 ahead of -2", p.nearest(FAR + 1, 0, 0, 64), -1);
        due("-2", p.nearest(FAR + 1, 0, 0, 63), -2);
        due("-1", p.drop(64), -1);
        due("-1", p.found(3), -1);
        due("-2", p.told(3), -2);
        due("-2", p.dimensions(0), -2);
        due("-2", askLine(p, 4, 0, 0), -2);
        due("-2", askLine(p, 0, 1, 0), -2);
        due("all are there", p.count(), 64);
        dueAll("what was found", found(p), 10, 11, 12);
        dueAll("what was told", told(p), 6, 3, 0);
        dueAll("BLOCK 0", block(p, 0), 1, 64, 16, 0);
        due("one DIMENSION", p.dimensions(1), 1);
    }

    private static void nothing() {
        sentence("NOTHING stands for all of them where a long is answered.");
        PointTrees p = points(3);
        p.build();
        due("NOTHING", PointTrees.NOTHING, Long.MIN_VALUE);
        dueAll("end", new long[] {p.end(3, 0, 0), p.end(0, 1, 0), p.end(0, 0, 2)}, NOTHING, NOTHING, NOTHING);
        dueAll("bound", new long[] {p.bound(1, 0, 0), p.bound(0, 1, 0), p.bound(0, 0, 2)}, NOTHING, NOTHING, NOTHING);
        dueAll("distance", new long[] {p.distance(3, 0, 0, 0), p.distance(0, FAR + 1, 0, 0)}, NOTHING, NOTHING);
        due("day", p.day(0, -1), NOTHING);
    }

    private static void axesThatThereAreNot() {
        sentence("Of axes that there are not numbers do not count, whatever they are.");
        int[] odd = {LEAST, -FAR - 1, 0, FAR + 1, GREATEST};
        for (int y : odd) {
            for (int z : odd) {
                PointTrees p = new PointTrees();
                due("thing", p.thing(0, 5, y, z, z, y), 0);
                due("another one", p.thing(5, 6, z, y, y, z), 1);
                due("range", p.range(1, 0, 5, y, z, z, y), 1);
                p.build();
                due("range, built", p.range(0, 5, 9, y, z, z, y), 2);
                due("nearest", p.nearest(6, y, z, 0), 1);
                due("distance", p.distance(0, 7, y, z), 4);
                due("pairs", p.pairs(), 1);
                p.dimensions(2);
                due("thing of two", p.thing(0, 5, 0, 5, y, z), 0);
                due("range of two", p.range(2, 5, 5, 0, 0, z, y), 1);
                due("distance of two", p.distance(0, 8, 9, z), 25);
            }
        }
    }

    private static void interfaceSays() {
        notToldByCalls("""
            Ahead of the calls `dimensions`, `thing`, `drop`, `count`, `end` the interface says: ---- things.""");
        notToldByCalls("Ahead of the calls `build`, `block`, `bound` the interface says: ---- the tree.");
        notToldByCalls("""
            Ahead of the calls `range`, `found`, `told`, `nearest`, `distance`, `pairs` the interface says:
            ---- asked.""");
        notToldByCalls("Ahead of the calls `day` the interface says: ---- times.");
    }

    // ---- Promises 1 to 6: things

    private static void promise1() {
        sentence("One DIMENSION, no THINGS, no BLOCKS.");
        PointTrees p = new PointTrees();
        due("count()", p.count(), 0);
        due("end(0, 0, 0)", p.end(0, 0, 0), NOTHING);
        due("block(0, 0)", p.block(0, 0), -1);
        due("bound(0, 0, 0)", p.bound(0, 0, 0), NOTHING);
        due("dimensions(1)", p.dimensions(1), 1);
    }

    private static void promise2() {
        sentence("DIMENSIONS are d, no THINGS, no BLOCKS, nothing asked: how many they were. -2.");
        PointTrees p = points(9);
        p.build();
        askLine(p, 0, 2, 8);
        due("dimensions(4)", p.dimensions(4), -2);
        due("nothing is changed", p.found(6), 8);
        due("dimensions(2)", p.dimensions(2), 1);
        due("no THINGS", p.count(), 0);
        due("no THING", p.drop(0), -1);
        due("no BLOCKS", p.block(0, 0), -1);
        due("nothing asked", p.found(0), -1);
        dueAll("nothing asked", told(p), 0, 0, 0);
        due("too few", p.dimensions(0), -2);
        due("they are two", p.dimensions(3), 2);
        due("they are three", p.dimensions(1), 3);
    }

    private static void promise3() {
        sentence("A THING, by LOW and HIGH on each axis: its number. -2, -4.");
        PointTrees p = space(3);
        due("the first one", p.thing(1, 2, 3, 4, 5, 6), 0);
        due("LOW above HIGH", p.thing(1, 2, 3, 4, 6, 5), -2);
        due("outside", p.thing(1, 2, 3, FAR + 1, 5, 6), -2);
        due("the next one", p.thing(-FAR, FAR, 0, 0, -1, 1), 1);
        for (int i = 0; i < 6; i++) {
            due("end " + i, p.end(0, i / 2, i % 2), i + 1);
        }
        for (int i = 2; i < 64; i++) {
            due("one more", p.thing(i, i, i, i, i, i), i);
        }
        due("no room", p.thing(0, 0, 0, 0, 0, 0), -4);
    }

    private static void promise4() {
        sentence("A THING goes: how many are there. -1.");
        PointTrees p = points(3);
        int[][] drops = {{1, 2}, {1, -1}, {3, -1}, {-1, -1}, {2, 1}, {0, 0}, {0, -1}};
        for (int[] row : drops) {
            due("drop(" + row[0] + ")", p.drop(row[0]), row[1]);
        }
    }

    private static void promise5() {
        sentence("How many THINGS are there.");
        PointTrees p = new PointTrees();
        due("none", p.count(), 0);
        line(p, 0, 0);
        line(p, 1, 0);
        line(p, 0, 1);
        due("two came, one was refused", p.count(), 2);
        p.build();
        line(p, 0, 2);
        due("a LOOSE one too", p.count(), 3);
        p.drop(1);
        due("one went", p.count(), 2);
        p.drop(1);
        due("no other one went", p.count(), 2);
    }

    private static void promise6() {
        sentence("LOW (side 0), HIGH (1) of a THING on an axis. NOTHING.");
        PointTrees p = space(2);
        p.thing(-3, 4, 5, 5, 6, 7);
        int[][] ends = {{0, 0, -3}, {0, 1, 4}, {1, 0, 5}, {1, 1, 5}};
        for (int[] row : ends) {
            due("end(0, " + row[0] + ", " + row[1] + ")", p.end(0, row[0], row[1]), row[2]);
        }
        int[][] refused = {{1, 0, 0}, {-1, 0, 0}, {0, 2, 0}, {0, -1, 0}, {0, 0, 2}, {0, 0, -1}};
        for (int[] row : refused) {
            due("refused", p.end(row[0], row[1], row[2]), NOTHING);
        }
        p.drop(0);
        due("it went", p.end(0, 0, 0), NOTHING);
    }

    // ---- Promises 7 to 9: the tree

    private static void promise7() {
        sentence("THE TREE is made: how many BLOCKS.");
        int[][] rows = {{0, 0}, {1, 1}, {4, 1}, {5, 3}, {8, 3}, {9, 5}, {10, 7}, {16, 7}, {17, 9}, {64, 31}};
        for (int[] row : rows) {
            PointTrees p = points(row[0]);
            due("of " + row[0], p.build(), row[1]);
            due("the last one of " + row[0], p.block(row[1] - 1, 0), row[0] == 0 ? -1 : 0);
            due("one more of " + row[0], p.block(row[1], 0), -1);
        }
    }

    private static void promise8() {
        sentence("""
            Of a BLOCK: what = 0 whether it is PARTED (1, 0), 1 how many THINGS it has (as it was made), 2 the BLOCK of
            its other half (0 if it is not PARTED), 3 how many BLOCKS it lies in. -1, -2.""");
        PointTrees p = points(18);
        due("none is made", p.block(0, 0), -1);
        p.build();
        p.drop(0);
        line(p, 0, 0);
        long[][] blocks = {{1, 18, 6, 0}, {1, 9, 5, 1}, {1, 5, 4, 2}, {0, 3, 0, 3}, {0, 2, 0, 3}, {0, 4, 0, 2},
            {1, 9, 10, 1}, {1, 5, 9, 2}, {0, 3, 0, 3}, {0, 2, 0, 3}, {0, 4, 0, 2}};
        for (int b = 0; b < blocks.length; b++) {
            dueAll("BLOCK " + b, block(p, b), blocks[b]);
        }
        dueAll("refused", new long[] {p.block(-1, 0), p.block(11, 0), p.block(0, -1), p.block(0, 4)}, -1, -1, -2, -2);
    }

    private static void promise9() {
        sentence("BOUNDS of a BLOCK on an axis: least (side 0), greatest (1). NOTHING.");
        PointTrees p = points(18);
        due("none is made", p.bound(0, 0, 0), NOTHING);
        p.build();
        dueAll("BLOCK 0", bounds(p, 0, 1), 0, 17);
        dueAll("BLOCK 6", bounds(p, 6, 1), 9, 17);
        dueAll("BLOCK 9", bounds(p, 9, 1), 12, 13);
        due("no BLOCK", p.bound(11, 0, 0), NOTHING);
        due("no BLOCK", p.bound(-1, 0, 0), NOTHING);
        due("no axis", p.bound(0, 1, 0), NOTHING);
        due("no axis", p.bound(0, -1, 0), NOTHING);
        due("no side", p.bound(0, 0, 2), NOTHING);
        due("no side", p.bound(0, 0, -1), NOTHING);
    }

    // ---- Promises 10 to 15: asked

    private static void promise10() {
        sentence("How many THINGS are in a RELATION to the box: they are FOUND. -2 (also LOW above HIGH).");
        for (int relation = 0; relation < 4; relation++) {
            PointTrees p = space(2);
            for (int i = 0; i < 60; i++) {
                put(p, GRID_BOXES.get(i * 37 % 100));
            }
            p.build();
            int[] box = {1, 2, 1, 3};
            int n = 0;
            due("RELATION -1", ask(p, -1, box), -2);
            due("RELATION 4", ask(p, 4, box), -2);
            due("LOW above HIGH on y", p.range(relation, 1, 2, 3, 1, 0, 0), -2);
            due("LOW above HIGH on x", p.range(relation, 2, 1, 1, 3, 0, 0), -2);
            int got = ask(p, relation, box);
            for (int i = 0; i < 60; i++) {
                if (isSo(relation, GRID_BOXES.get(i * 37 % 100), box)) {
                    due("RELATION " + relation + ", found(" + n + ")", p.found(n), i);
                    n++;
                }
            }
            due("RELATION " + relation, got, n);
            due("no more is FOUND", p.found(n), -1);
        }
    }

    private static void promise11() {
        sentence("The k-th, from 0, that the latest range() FOUND, by numbers. -1.");
        PointTrees p = new PointTrees();
        for (int i = 0; i < 10; i++) {
            line(p, i * 7 % 10, i * 7 % 10);
        }
        due("ahead of range()", p.found(0), -1);
        p.build();
        due("ahead of range()", p.found(0), -1);
        line(p, 3, 3);
        askLine(p, 0, 0, 3);
        dueAll("by numbers, not by places", found(p), 0, 3, 6, 9, 10);
        askLine(p, 0, 0, 1);
        dueAll("the latest one", found(p), 0, 3);
        askLine(p, 0, 1, 0);
        dueAll("a refused one is not the latest", found(p), 0, 3);
        due("below", p.found(-1), -1);
        due("above", p.found(2), -1);
    }

    private static void promise12() {
        sentence("""
            Of the latest range() (0 ahead of it): what = 0 how many BLOCKS were OPENED, 1 how many were SETTLED, 2 how
            many THINGS were FOUND in these. -2.""");
        PointTrees p = points(10);
        dueAll("ahead of it", told(p), 0, 0, 0);
        p.build();
        dueAll("ahead of it", told(p), 0, 0, 0);
        // BLOCKS 0 of 10, 1 and 4 of 5, 2 and 5 of 3, 3 and 6 of 2. RELATION, LOW, HIGH; how many, and what is told.
        int[][] rows = {{0, 0, 5, 6, 3, 2, 5}, {1, 3, 7, 5, 3, 4, 5}, {2, 6, 6, 1, 3, 2, 0}, {3, 0, 5, 4, 3, 2, 2},
            {3, 3, 6, 6, 4, 3, 5}};
        for (int[] row : rows) {
            due("RELATION " + row[0], askLine(p, row[0], row[1], row[2]), row[3]);
            dueAll("RELATION " + row[0], told(p), row[4], row[5], row[6]);
        }
        dueAll("refused", new long[] {p.told(-1), p.told(3)}, -2, -2);
    }

    /** By looking at each place of the box. */
    private static long square(int[] box, int x, int y) {
        long least = Long.MAX_VALUE;
        for (int i = 0; i < GRID * GRID; i++) {
            if (has(box, i % GRID, i / GRID)) {
                long dx = x - i % GRID;
                long dy = y - i / GRID;
                least = Math.min(least, dx * dx + dy * dy);
            }
        }
        return least;
    }

    private static void promise13() {
        sentence("""
            The k-th nearest THING, from 0, of a place (of -1000000 to 1000000): by the square of the distance to its
            next point, of like ones by numbers. -1, -2.""");
        for (int x = -2; x < GRID + 2; x++) {
            PointTrees p = space(2);
            for (int i = 0; i < 20; i++) {
                put(p, GRID_BOXES.get(i * 37 % 100));
            }
            p.drop(7);
            for (int y = -2; y < GRID + 2; y++) {
                nearestOnesOf(p, x, y);
            }
            due("no number", p.nearest(x, 0, 0, 19), -1);
            due("no number, no place", p.nearest(FAR + 1, 0, 0, -1), -1);
            due("no place", p.nearest(x, FAR + 1, 0, 18), -2);
            due("no place", p.nearest(-FAR - 1, 0, 0, 0), -2);
        }
        PointTrees p = points(3);
        due("the highest place", p.nearest(FAR, 0, 0, 0), 2);
        due("the lowest place", p.nearest(-FAR, 0, 0, 0), 0);
        due("the last one of 64", points(64).nearest(0, 0, 0, 63), 63);
    }

    /** Takes the nearest one away again and again, of the first 20 boxes but for the 7th, which went. */
    private static void nearestOnesOf(PointTrees p, int x, int y) {
        boolean[] taken = new boolean[20];
        taken[7] = true;
        for (int k = 0; k < 19; k++) {
            int nearest = -1;
            for (int i = 0; i < 20; i++) {
                if (!taken[i] && (nearest < 0 || square(GRID_BOXES.get(i * 37 % 100), x, y)
                        < square(GRID_BOXES.get(nearest * 37 % 100), x, y))) {
                    nearest = i;
                }
            }
            taken[nearest] = true;
            due("nearest(" + x + ", " + y + ", 0, " + k + ")", p.nearest(x, y, LEAST, k), nearest);
        }
    }

    private static void promise14() {
        sentence("The square of the distance of a place to the next point of a THING. NOTHING.");
        for (int[] box : GRID_BOXES) {
            PointTrees p = space(2);
            put(p, box);
            for (int x = -2; x < GRID + 2; x++) {
                for (int y = -2; y < GRID + 2; y++) {
                    due("distance(0, " + x + ", " + y + ", ..)", p.distance(0, x, y, GREATEST), square(box, x, y));
                }
            }
            due("no THING", p.distance(1, 0, 0, 0), NOTHING);
            due("no place", p.distance(0, 0, -FAR - 1, 0), NOTHING);
            p.drop(0);
            due("it went", p.distance(0, 0, 0, 0), NOTHING);
        }
        PointTrees p = space(3);
        p.thing(-FAR, -FAR, -FAR, -FAR, -FAR, -FAR);
        due("the farthest", p.distance(0, FAR, FAR, FAR), 12L * FAR * FAR);
        p.thing(10, 20, 30, 40, 50, 60);
        due("below on all axes", p.distance(1, 9, 28, 46), 1 + 4 + 16);
        due("above on all axes", p.distance(1, 21, 42, 64), 1 + 4 + 16);
    }

    private static void promise15() {
        sentence("How many pairs of THINGS MEET.");
        PointTrees p = space(2);
        List<int[]> there = new ArrayList<>();
        for (int i = 0; i < 64; i++) {
            int[] box = GRID_BOXES.get(i * 37 % 100);
            put(p, box);
            there.add(box);
            due("of " + there.size(), p.pairs(), pairsByPlaces(there));
            if (i == 40) {
                p.build();
            }
        }
        for (int i = 0; i < 64; i++) {
            p.drop(i);
            there.remove(0);
            due("of " + there.size() + " that are left", p.pairs(), pairsByPlaces(there));
        }
    }

    private static int pairsByPlaces(List<int[]> boxes) {
        int n = 0;
        for (int i = 0; i < boxes.size(); i++) {
            for (int j = 0; j < i; j++) {
                n += meet(boxes.get(i), boxes.get(j)) ? 1 : 0;
            }
        }
        return n;
    }

    // ---- Promise 16: times

    private static void promise16() {
        sentence("""
            The greatest whole number of days of a size that is not above a time. NOTHING: the size is below 0.
            ArithmeticException: it is 0.""");
        PointTrees p = new PointTrees();
        for (int time = -30; time <= 30; time++) {
            for (int size = 1; size <= 7; size++) {
                int days = -31;
                while ((days + 1) * size <= time) {
                    days++;
                }
                due("day(" + time + ", " + size + ")", p.day(time, size), days);
            }
            p = new PointTrees();
            due("day(" + time + ", -1)", p.day(time, -1), NOTHING);
            due("day(" + time + ", least)", p.day(time, Long.MIN_VALUE), NOTHING);
            due("day(" + time + ", 0) throws", throwsOnZero(p, time), 1);
        }
        due("the least time", p.day(Long.MIN_VALUE, Long.MAX_VALUE), -2);
        due("the greatest time", p.day(Long.MAX_VALUE, Long.MAX_VALUE), 1);
    }

    private static int throwsOnZero(PointTrees p, long time) {
        try {
            p.day(time, 0);
            return 0;
        } catch (ArithmeticException e) {
            return 1;
        }
    }

    private static void notPromised() {
        notToldByCalls("""
            How the state is held inside the object is free, as are the speed of each call, the text of toString and the
            behaviour of equals and hashCode.""");
        notToldByCalls("Use of one object from several threads at once is not promised to be safe.");
        notToldByCalls("""
            Nothing is promised beyond the answers and state changes described above, and nothing about an object after
            its 512th call.""");
    }

    /** The quotations are the whole document but for headings, the public face and the calls' names. */
    private static void quotedAll() throws IOException {
        if (!Files.exists(DOCUMENT)) {
            System.out.println("the document is not at " + DOCUMENT + ": not known whether all of it is quoted");
            return;
        }
        String want = Files.readString(DOCUMENT)
                .replaceAll("(?s)```java.*?```", " ")
                .replaceAll("(?m)^#+ .*$", " ")
                .replaceAll("(?m)^`[^`]*`: ", " ")
                .replaceAll("\\s+", " ").trim();
        String got = String.join(" ", quoted);
        if (!got.equals(want)) {
            int i = 0;
            while (i < Math.min(got.length(), want.length()) && got.charAt(i) == want.charAt(i)) {
                i++;
            }
            complain("not as the document has it, from here on: " + want.substring(Math.max(0, i - 60)));
        }
    }

    private static void terms() {
        dimensionsAndAxes();
        things();
        meetAndWithin();
        treeAnew();
        blockOfAll();
        partedByMiddles();
        numbersOfBlocks();
        boundsOfBlocks();
        laterOnes();
        relations();
        settled();
        opened();
        refusals();
        nothing();
        axesThatThereAreNot();
        interfaceSays();
    }

    private static void promises() {
        promise1();
        promise2();
        promise3();
        promise4();
        promise5();
        promise6();
        promise7();
        promise8();
        promise9();
        promise10();
        promise11();
        promise12();
        promise13();
        promise14();
        promise15();
        promise16();
    }

    public static void main(String[] args) throws IOException {
        whatItIs();
        fiveHundredTwelveCalls();
        terms();
        promises();
        notPromised();
        quotedAll();
        System.out.println(wrong == 0 ? "each sentence holds" : wrong + " answers are not as due");
        if (wrong != 0) {
            System.exit(1);
        }
    }
}
