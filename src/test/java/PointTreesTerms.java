import java.util.ArrayList;
import java.util.List;

/** Each sentence of the document's Terms that names a boundary case has a test of its own here. */
public final class PointTreesTerms {
    private static final long NOTHING = Long.MIN_VALUE;
    private static final int LEAST = Integer.MIN_VALUE;
    private static final int GREATEST = Integer.MAX_VALUE;
    private static final int FAR = 1000000;
    private static int wrong = 0;

    private static void due(String what, long got, long want) {
        if (got != want) {
            wrong++;
            System.out.println(what + " answered " + got + ", due is " + want);
        }
    }

    private static void dueTold(String what, PointTrees p, int opened, int settled, int inSettled) {
        due(what + ": opened", p.told(0), opened);
        due(what + ": settled", p.told(1), settled);
        due(what + ": found in settled", p.told(2), inSettled);
    }

    private static PointTrees space(int d) {
        PointTrees p = new PointTrees();
        p.dimensions(d);
        return p;
    }

    /** The same ends on all d axes; on axes that there are not, ends that no box may have. */
    private static int[] cube(int d, int low, int high) {
        int[] ends = {GREATEST, LEAST, GREATEST, LEAST, GREATEST, LEAST};
        for (int axis = 0; axis < d; axis++) {
            ends[2 * axis] = low;
            ends[2 * axis + 1] = high;
        }
        return ends;
    }

    private static int[] with(int[] box, int axis, int low, int high) {
        int[] other = box.clone();
        other[2 * axis] = low;
        other[2 * axis + 1] = high;
        return other;
    }

    private static int put(PointTrees p, int[] e) {
        return p.thing(e[0], e[1], e[2], e[3], e[4], e[5]);
    }

    private static int ask(PointTrees p, int relation, int[] e) {
        return p.range(relation, e[0], e[1], e[2], e[3], e[4], e[5]);
    }

    private static int askLine(PointTrees p, int relation, int low, int high) {
        return ask(p, relation, cube(1, low, high));
    }

    /** Points 0, 10, 20, .. on one axis, n of them. */
    private static PointTrees tens(int n) {
        PointTrees p = new PointTrees();
        for (int i = 0; i < n; i++) {
            put(p, cube(1, 10 * i, 10 * i));
        }
        return p;
    }

    // "An object is used for at most 512 calls": the last of them is as good as the first.
    private static void the512thCall() {
        PointTrees p = space(3);
        int calls = 1;
        for (int i = 0; i < 64; i++) {
            put(p, cube(3, i, i));
            calls++;
        }
        p.build();
        calls++;
        while (calls < 510) {
            int most = calls % 64;
            due("call " + calls, ask(p, 0, cube(3, 0, most)), most + 1);
            calls++;
        }
        due("call 511", ask(p, 1, cube(3, 1, 64)), 63);
        due("call 512", p.found(62), 63);
    }

    // "DIMENSIONS are 1 (at first) to 3"
    private static void dimensionsAreOneToThree() {
        due("at first", new PointTrees().dimensions(3), 1);
        due("least", space(1).dimensions(1), 1);
        due("greatest", space(3).dimensions(1), 3);
        for (int d : new int[] {LEAST, -1, 0, 4, 5, GREATEST}) {
            PointTrees p = space(2);
            due("no DIMENSIONS " + d, p.dimensions(d), -2);
            due("DIMENSIONS stay behind " + d, p.dimensions(2), 2);
        }
    }

    // "axes 0, 1, 2 of them"
    private static void axesOfTheDimensions() {
        for (int d = 1; d <= 3; d++) {
            PointTrees p = space(d);
            put(p, new int[] {1, 2, 3, 4, 5, 6});
            p.build();
            for (int axis : new int[] {LEAST, -1, 0, 1, 2, 3, GREATEST}) {
                for (int side = 0; side < 2; side++) {
                    long want = axis >= 0 && axis < d ? 2 * axis + side + 1 : NOTHING;
                    due("end on axis " + axis + " of " + d, p.end(0, axis, side), want);
                    due("bound on axis " + axis + " of " + d, p.bound(0, axis, side), want);
                }
            }
        }
    }

    // "numbered 0, 1, .. (64 at most since DIMENSIONS were told, also those that went)"
    private static void sixtyFourThings() {
        for (int d = 1; d <= 3; d++) {
            PointTrees p = space(d);
            for (int i = 0; i < 64; i++) {
                due("number " + i, put(p, cube(d, i, i)), i);
            }
            due("the 65th", put(p, cube(d, 0, 0)), -4);
            due("the 65th again", put(p, cube(d, 0, 0)), -4);
            due("64 stay", p.count(), 64);
            due("the last one's end", p.end(63, d - 1, 1), 63);
            due("no THING 64", p.end(64, 0, 0), NOTHING);
        }
    }

    private static void thoseThatWentTakeRoom() {
        PointTrees p = new PointTrees();
        for (int i = 0; i < 64; i++) {
            due("one comes", put(p, cube(1, i, i)), i);
            due("and goes", p.drop(i), 0);
        }
        due("no room though none is there", put(p, cube(1, 0, 0)), -4);
        p.build();
        due("build() makes no room", put(p, cube(1, 0, 0)), -4);
        p.dimensions(4);
        due("refused DIMENSIONS make no room", put(p, cube(1, 0, 0)), -4);
        p.dimensions(1);
        for (int i = 0; i < 64; i++) {
            due("room since DIMENSIONS were told", put(p, cube(1, i, i)), i);
        }
        due("and no more", put(p, cube(1, 0, 0)), -4);
    }

    private static void refusedOnesTakeNoRoom() {
        PointTrees p = new PointTrees();
        for (int i = 0; i < 64; i++) {
            due("refused", put(p, cube(1, 1, 0)), -2);
            due("taken", put(p, cube(1, 0, 0)), i);
        }
        due("full", put(p, cube(1, 0, 0)), -4);
    }

    // "whole numbers of -1000000 to 1000000"
    private static void endsOfThings() {
        for (int d = 1; d <= 3; d++) {
            for (int axis = 0; axis < d; axis++) {
                int[] all = cube(d, -5, 5);
                PointTrees p = space(d);
                String where = "axis " + axis + " of " + d;
                due("low of " + where, put(p, with(all, axis, -FAR, -FAR)), 0);
                due("high of " + where, put(p, with(all, axis, FAR, FAR)), 1);
                due("both of " + where, put(p, with(all, axis, -FAR, FAR)), 2);
                due("below on " + where, put(p, with(all, axis, -FAR - 1, 0)), -2);
                due("above on " + where, put(p, with(all, axis, 0, FAR + 1)), -2);
                due("both below on " + where, put(p, with(all, axis, -FAR - 1, -FAR - 1)), -2);
                due("both above on " + where, put(p, with(all, axis, FAR + 1, FAR + 1)), -2);
                due("both outside on " + where, put(p, with(all, axis, LEAST, GREATEST)), -2);
                due("least on " + where, put(p, with(all, axis, LEAST, 0)), -2);
                due("greatest on " + where, put(p, with(all, axis, 0, GREATEST)), -2);
                due("three are there", p.count(), 3);
                due("low kept", p.end(0, axis, 0), -FAR);
                due("high kept", p.end(1, axis, 1), FAR);
            }
        }
    }

    // "LOW not above HIGH"
    private static void lowNotAboveHigh() {
        for (int d = 1; d <= 3; d++) {
            for (int axis = 0; axis < d; axis++) {
                for (int high : new int[] {-FAR, -1, 0, 1, FAR - 1}) {
                    PointTrees p = space(d);
                    int[] all = cube(d, -5, 5);
                    due("LOW above HIGH", put(p, with(all, axis, high + 1, high)), -2);
                    due("LOW far above HIGH", put(p, with(all, axis, FAR, -FAR)), -2);
                    due("LOW is HIGH", put(p, with(all, axis, high, high)), 0);
                    due("LOW below HIGH", put(p, with(all, axis, high, high + 1)), 1);
                }
            }
        }
    }

    // "Two boxes MEET if they have a point together (ends belong to them)"
    private static void endsBelongToBoxes() {
        for (int d = 1; d <= 3; d++) {
            for (int axis = 0; axis < d; axis++) {
                for (int gap = 0; gap < 2; gap++) {
                    PointTrees p = space(d);
                    put(p, cube(d, 0, 10));
                    int[] above = with(cube(d, 0, 10), axis, 10 + gap, 20);
                    int[] below = with(cube(d, 0, 10), axis, -10, -gap);
                    due("MEET above", ask(p, 0, above), 1 - gap);
                    due("MEET below", ask(p, 0, below), 1 - gap);
                    due("apart above", ask(p, 3, above), gap);
                    due("apart below", ask(p, 3, below), gap);
                    put(p, above);
                    due("a pair above", p.pairs(), 1 - gap);
                    put(p, below);
                    due("two pairs", p.pairs(), 2 * (1 - gap));
                }
            }
            PointTrees p = space(d);
            put(p, cube(d, 0, 10));
            put(p, cube(d, 10, 20));
            due("a corner of " + d, p.pairs(), 1);
        }
    }

    // "one is WITHIN another one if all its points are of that"
    private static void withinAtTheEnds() {
        for (int d = 1; d <= 3; d++) {
            for (int axis = 0; axis < d; axis++) {
                PointTrees p = space(d);
                int[] box = cube(d, 0, 10);
                put(p, box);
                due("WITHIN its like", ask(p, 1, box), 1);
                due("its like WITHIN it", ask(p, 2, box), 1);
                due("one too far below", ask(p, 1, with(box, axis, 1, 10)), 0);
                due("one too far above", ask(p, 1, with(box, axis, 0, 9)), 0);
                due("holds what ends earlier", ask(p, 2, with(box, axis, 1, 9)), 1);
                due("does not hold one farther below", ask(p, 2, with(box, axis, -1, 10)), 0);
                due("does not hold one farther above", ask(p, 2, with(box, axis, 0, 11)), 0);
                due("WITHIN a greater one", ask(p, 1, with(box, axis, -1, 11)), 1);
            }
        }
    }

    // "BLOCK 0 is of all of them (there is none without THINGS)"
    private static void noBlockWithoutThings() {
        PointTrees p = new PointTrees();
        due("none at first", p.build(), 0);
        due("no BLOCK", p.block(0, 1), -1);
        due("no BOUNDS", p.bound(0, 0, 0), NOTHING);
        put(p, cube(1, 7, 7));
        due("BLOCKS ahead of build()", p.block(0, 1), -1);
        due("one THING", p.build(), 1);
        due("it is of one", p.block(0, 1), 1);
        due("it is not PARTED", p.block(0, 0), 0);
        p.drop(0);
        due("it stays", p.block(0, 1), 1);
        due("none is left", p.build(), 0);
        due("no BLOCK is left", p.block(0, 1), -1);
        due("no BOUNDS are left", p.bound(0, 0, 0), NOTHING);
    }

    private static int expectBlocks(List<int[]> rows, int n, int depth) {
        int[] row = {0, n, 0, depth};
        rows.add(row);
        if (n > 4) {
            row[0] = 1;
            expectBlocks(rows, n - n / 2, depth + 1);
            row[2] = rows.size();
            expectBlocks(rows, n / 2, depth + 1);
        }
        return rows.size();
    }

    // "A BLOCK of more than 4 is PARTED", "(n + 1) / 2", "a BLOCK, all of the first half, all of the other half"
    private static void blocksOfAllCounts() {
        for (int n = 0; n <= 64; n++) {
            List<int[]> rows = new ArrayList<>();
            int blocks = n == 0 ? 0 : expectBlocks(rows, n, 0);
            PointTrees p = tens(n);
            due("BLOCKS of " + n, p.build(), blocks);
            for (int b = 0; b < blocks; b++) {
                for (int what = 0; what < 4; what++) {
                    due("of " + n + ": block(" + b + ", " + what + ")", p.block(b, what), rows.get(b)[what]);
                }
            }
            due("of " + n + ": one more", p.block(blocks, 0), -1);
        }
    }

    private static void fourAndFive() {
        PointTrees p = tens(4);
        due("four: one BLOCK", p.build(), 1);
        due("four: not PARTED", p.block(0, 0), 0);
        due("four: no other half", p.block(0, 2), 0);
        put(p, cube(1, 40, 40));
        due("a fifth, LOOSE: not PARTED", p.block(0, 0), 0);
        due("five: three BLOCKS", p.build(), 3);
        due("five: PARTED", p.block(0, 0), 1);
        due("five: the first half", p.block(1, 1), 3);
        due("five: its end", p.bound(1, 0, 1), 20);
        due("five: the other half", p.block(2, 1), 2);
        due("five: its end", p.bound(2, 0, 0), 30);
        p.drop(0);
        due("dropped: PARTED still", p.block(0, 0), 1);
        due("four again", p.build(), 1);
        due("four again: not PARTED", p.block(0, 0), 0);
    }

    /**
     * The axis on which five THINGS are PARTED. On each axis they stand in another order and are
     * equally far apart, but that LOW of the last one is less by the number told for the axis.
     */
    private static int partedAxis(int d, int step, int... less) {
        int[][] ranks = {{0, 1, 2, 3, 4}, {4, 0, 3, 1, 2}, {1, 4, 0, 3, 2}};
        PointTrees p = space(d);
        for (int i = 0; i < 5; i++) {
            int[] e = new int[6];
            for (int axis = 0; axis < 3; axis++) {
                int place = (ranks[axis][i] - 2) * step;
                e[2 * axis] = ranks[axis][i] == 4 ? place - less[axis] : place;
                e[2 * axis + 1] = place;
            }
            put(p, e);
        }
        p.build();
        for (int axis = 0; axis < d; axis++) {
            if (p.bound(1, axis, 1) == 0) {
                return axis;
            }
        }
        return -1;
    }

    // "the greatest LOW + HIGH of its THINGS is farthest from the least (of several the first axis)"
    private static void firstOfTheFarthestAxes() {
        for (int step : new int[] {10, 500000}) {
            due("all alike", partedAxis(3, step, 0, 0, 0), 0);
            due("all alike and less", partedAxis(3, step, 1, 1, 1), 0);
            due("0 and 1 alike", partedAxis(3, step, 0, 0, 1), 0);
            due("0 and 2 alike", partedAxis(3, step, 0, 1, 0), 0);
            due("1 and 2 alike", partedAxis(3, step, 1, 0, 0), 1);
            due("1 is farther by one", partedAxis(3, step, 1, 0, 1), 1);
            due("2 is farther by one", partedAxis(3, step, 1, 1, 0), 2);
            due("2, then 1, then 0", partedAxis(3, step, 2, 1, 0), 2);
            due("two axes alike", partedAxis(2, step, 0, 0, 0), 0);
            due("of two the other one", partedAxis(2, step, 1, 0, 0), 1);
            due("2 is no axis of two", partedAxis(2, step, 1, 1, 0), 0);
            due("1 and 2 are no axes of one", partedAxis(1, step, 1, 0, 0), 0);
        }
    }

    private static void middlesCountNotEnds() {
        PointTrees p = space(2);
        for (int i = 0; i < 5; i++) {
            p.thing(i * -100, i * 100, i == 1 ? 1 : 0, i == 1 ? 1 : 0, 0, 0);
        }
        p.build();
        due("PARTED by middles on y", p.bound(1, 1, 1), 0);
        due("the higher ones: y", p.bound(2, 1, 1), 1);
        due("the first half: 0, 2, 3", p.bound(1, 0, 1), 300);
        due("the other half: 4, 1", p.bound(2, 0, 1), 400);
    }

    // "by LOW + HIGH on it, of like ones by numbers"
    private static void likeOnesByNumbers() {
        for (int turn = 0; turn < 2; turn++) {
            PointTrees p = new PointTrees();
            put(p, cube(1, 50, 50));
            for (int i = 1; i <= 5; i++) {
                int wide = turn == 0 ? i : 6 - i;
                put(p, cube(1, -wide, wide));
            }
            p.drop(0);
            due("five like ones", p.build(), 3);
            due("the first three", p.bound(1, 0, 1), turn == 0 ? 3 : 5);
            due("the last two", p.bound(2, 0, 1), turn == 0 ? 5 : 2);
            due("the last two: least", p.bound(2, 0, 0), turn == 0 ? -5 : -2);
        }
    }

    private static void sixtyFourLikeOnes() {
        PointTrees p = space(3);
        for (int i = 0; i < 64; i++) {
            put(p, cube(3, -i, i));
        }
        due("64 like ones", p.build(), 31);
        int[] leaves = {4, 5, 7, 8, 11, 12, 14, 15, 19, 20, 22, 23, 26, 27, 29, 30};
        for (int i = 0; i < leaves.length; i++) {
            due("BLOCK " + leaves[i] + " has four", p.block(leaves[i], 1), 4);
            due("BLOCK " + leaves[i] + " ends", p.bound(leaves[i], 2, 1), 4 * i + 3);
        }
    }

    // "BOUNDS of a BLOCK: on each axis the least LOW and greatest HIGH of its THINGS"
    private static void boundsAtTheEnds() {
        PointTrees p = space(3);
        for (int axis = 0; axis < 3; axis++) {
            put(p, with(cube(3, 0, 0), axis, -FAR, 0));
            put(p, with(cube(3, 0, 0), axis, 0, FAR));
        }
        due("of six", p.build(), 3);
        for (int axis = 0; axis < 3; axis++) {
            due("least LOW on " + axis, p.bound(0, axis, 0), -FAR);
            due("greatest HIGH on " + axis, p.bound(0, axis, 1), FAR);
        }
        // Parted on x: -1000000, then the like ones 2 and 3; then 4, 5 and 1000000.
        due("first half on x", p.bound(1, 0, 0), -FAR);
        due("first half on x", p.bound(1, 0, 1), 0);
        due("first half on y", p.bound(1, 1, 0), -FAR);
        due("first half on y", p.bound(1, 1, 1), FAR);
        due("first half on z", p.bound(1, 2, 0), 0);
        due("other half on z", p.bound(2, 2, 0), -FAR);
        due("other half on x", p.bound(2, 0, 1), FAR);
    }

    // "What is dropped later is looked at no more, but BLOCKS and BOUNDS stay"
    private static void blocksStayWhenThingsGo() {
        PointTrees p = tens(8);
        p.build();
        for (int t = 0; t < 8; t++) {
            p.drop(t);
        }
        due("none is there", p.count(), 0);
        due("BLOCK 0 stays", p.block(0, 1), 8);
        due("BLOCK 0 is PARTED", p.block(0, 0), 1);
        due("BLOCK 2 stays", p.block(2, 1), 4);
        due("BOUNDS stay", p.bound(0, 0, 1), 70);
        for (int relation = 0; relation < 4; relation++) {
            due("none is found by " + relation, askLine(p, relation, 0, 70), 0);
            due("none by " + relation + " in SETTLED ones", p.told(2), 0);
        }
        askLine(p, 0, 5, 65);
        dueTold("empty BLOCKS are OPENED", p, 3, 0, 0);
        askLine(p, 0, 5, 70);
        dueTold("and SETTLED", p, 2, 1, 0);
        due("none is nearest", p.nearest(0, 0, 0, 0), -1);
        due("none meet", p.pairs(), 0);
    }

    private static void boundsOfWhatWentTell() {
        PointTrees p = tens(4);
        p.build();
        p.drop(3);
        askLine(p, 0, 0, 20);
        dueTold("BOUNDS reach to what went", p, 1, 0, 0);
        p.build();
        askLine(p, 0, 0, 20);
        dueTold("no more behind build()", p, 0, 1, 3);
    }

    // "THINGS that come later are LOOSE till build(): looked at one by one"
    private static void looseTillBuild() {
        PointTrees p = tens(4);
        due("all LOOSE", askLine(p, 0, 0, 30), 4);
        dueTold("all LOOSE", p, 0, 0, 0);
        p.build();
        put(p, cube(1, 20, 20));
        put(p, cube(1, 500, 500));
        due("outside the BOUNDS", askLine(p, 0, 400, 600), 1);
        due("it is the LOOSE one", p.found(0), 5);
        dueTold("the BLOCK is SETTLED", p, 0, 1, 0);
        due("in the BOUNDS", askLine(p, 1, 0, 30), 5);
        due("LOOSE ones come by numbers", p.found(4), 4);
        dueTold("LOOSE ones are in no BLOCK", p, 0, 1, 4);
        due("apart", askLine(p, 3, 0, 30), 1);
        dueTold("apart: the BLOCK has none", p, 0, 1, 0);
        due("BLOCK 0 is as it was", p.block(0, 1), 4);
        due("BOUNDS are as they were", p.bound(0, 0, 1), 30);
        p.drop(4);
        due("a LOOSE one that went", askLine(p, 1, 0, 30), 4);
        p.build();
        due("no more LOOSE", askLine(p, 0, 0, 600), 5);
        dueTold("no more LOOSE", p, 0, 1, 5);
    }

    private static void looseWithoutBlocks() {
        PointTrees p = new PointTrees();
        p.build();
        put(p, cube(1, 1, 1));
        due("LOOSE behind a tree of none", askLine(p, 0, 0, 2), 1);
        dueTold("a tree of none", p, 0, 0, 0);
        p.build();
        p.drop(0);
        p.build();
        put(p, cube(1, 1, 1));
        due("LOOSE when all others went", askLine(p, 0, 0, 2), 1);
        due("it is the other one", p.found(0), 1);
        dueTold("none but LOOSE", p, 0, 0, 0);
    }

    /** Relation, LOW and HIGH asked on one axis of a THING 0 to 10; the answer, and what is told of the BLOCK. */
    private static final int[][] SETTLED_ROWS = {
        {0, 11, 20, 0, 0, 1, 0}, {0, -9, -1, 0, 0, 1, 0}, {0, 10, 20, 1, 1, 0, 0}, {0, -9, 0, 1, 1, 0, 0},
        {0, 0, 10, 1, 0, 1, 1}, {0, 1, 10, 1, 1, 0, 0}, {0, 0, 9, 1, 1, 0, 0}, {0, -1, 11, 1, 0, 1, 1},
        {1, 11, 20, 0, 0, 1, 0}, {1, -9, -1, 0, 0, 1, 0}, {1, 10, 20, 0, 1, 0, 0}, {1, -9, 0, 0, 1, 0, 0},
        {1, 0, 10, 1, 0, 1, 1}, {1, 1, 10, 0, 1, 0, 0}, {1, 0, 9, 0, 1, 0, 0}, {1, -1, 11, 1, 0, 1, 1},
        {2, 11, 20, 0, 0, 1, 0}, {2, -9, -1, 0, 0, 1, 0}, {2, 10, 20, 0, 0, 1, 0}, {2, -9, 0, 0, 0, 1, 0},
        {2, 0, 10, 1, 1, 0, 0}, {2, 1, 10, 1, 1, 0, 0}, {2, 0, 11, 0, 0, 1, 0}, {2, -1, 10, 0, 0, 1, 0},
        {3, 11, 20, 1, 0, 1, 1}, {3, -9, -1, 1, 0, 1, 1}, {3, 10, 20, 0, 1, 0, 0}, {3, -9, 0, 0, 1, 0, 0},
        {3, 0, 10, 0, 0, 1, 0}, {3, 1, 10, 0, 1, 0, 0}, {3, 0, 9, 0, 1, 0, 0}, {3, -1, 11, 0, 0, 1, 0},
    };

    // "A BLOCK is SETTLED by a RELATION and a box: .."
    private static void settledAtTheEnds() {
        for (int d = 1; d <= 3; d++) {
            for (int axis = 0; axis < d; axis++) {
                for (int[] row : SETTLED_ROWS) {
                    PointTrees p = space(d);
                    put(p, cube(d, 0, 10));
                    int[] box = with(cube(d, 0, 10), axis, row[1], row[2]);
                    String what = "RELATION " + row[0] + ", " + row[1] + " to " + row[2] + " on " + axis + " of " + d;
                    due(what + ", LOOSE", ask(p, row[0], box), row[3]);
                    dueTold(what + ", LOOSE", p, 0, 0, 0);
                    p.build();
                    due(what, ask(p, row[0], box), row[3]);
                    dueTold(what, p, row[4], row[5], row[6]);
                }
            }
        }
    }

    // "what is SETTLED is not looked into; others are OPENED: both parts .., or, if it is not PARTED, its THINGS"
    private static void openedAndSettled() {
        PointTrees p = tens(64);
        p.build();
        int[][] rows = {
            {0, 0, 630, 64, 0, 1, 64}, {0, 631, 640, 0, 0, 1, 0}, {0, 0, 0, 1, 5, 4, 0}, {0, 0, 310, 32, 1, 2, 32},
            {0, 0, 30, 4, 4, 5, 4}, {1, 0, 31, 4, 4, 5, 4}, {1, 1, 629, 62, 9, 6, 56}, {2, 0, 0, 1, 5, 4, 0},
            {2, 5, 5, 0, 5, 4, 0}, {2, 35, 35, 0, 4, 5, 0}, {2, 630, 631, 0, 0, 1, 0}, {3, 0, 0, 63, 5, 4, 60},
            {3, 0, 310, 32, 1, 2, 32}, {3, -5, -1, 64, 0, 1, 64}, {3, 0, 630, 0, 0, 1, 0},
        };
        for (int[] row : rows) {
            String what = "RELATION " + row[0] + ", " + row[1] + " to " + row[2] + " of 64";
            due(what, askLine(p, row[0], row[1], row[2]), row[3]);
            dueTold(what, p, row[4], row[5], row[6]);
        }
    }

    // "of several the first one here: -1 .., -2 .., -4 .."
    private static void firstOfSeveralRefusals() {
        PointTrees p = tens(64);
        p.build();
        due("-2 ahead of -4: turned", put(p, cube(1, 1, 0)), -2);
        due("-2 ahead of -4: outside", put(p, cube(1, 0, FAR + 1)), -2);
        due("-4 alone", put(p, cube(1, 0, 1)), -4);
        due("-1 ahead of -2: block", p.block(31, 4), -1);
        due("-1 ahead of -2: block", p.block(-1, -1), -1);
        due("-2 alone: block", p.block(30, 4), -2);
        due("-1 ahead of -2: nearest", p.nearest(FAR + 1, 0, 0, 64), -1);
        due("-1 ahead of -2: nearest", p.nearest(-FAR - 1, 0, 0, -1), -1);
        due("-2 alone: nearest", p.nearest(FAR + 1, 0, 0, 63), -2);
        due("-1 ahead of -2: none is there", new PointTrees().nearest(LEAST, 0, 0, 0), -1);
        due("-1 ahead of -2: no BLOCK is there", new PointTrees().block(0, 4), -1);
    }

    // "Of axes that there are not numbers do not count, whatever they are."
    private static void axesThatThereAreNot() {
        int[] odd = {LEAST, -FAR - 1, -FAR, 0, FAR, FAR + 1, GREATEST};
        for (int d = 1; d <= 2; d++) {
            for (int low : odd) {
                for (int high : odd) {
                    PointTrees p = space(d);
                    int[] a = with(cube(d, 0, 10), 2, low, high);
                    int[] b = with(cube(d, 10, 20), 2, high, low);
                    due("thing", put(p, a), 0);
                    due("another one", put(p, b), 1);
                    due("they MEET", p.pairs(), 1);
                    due("LOOSE: MEET", ask(p, 0, with(cube(d, 0, 9), 2, low, high)), 1);
                    due("place", p.nearest(20, d > 1 ? 20 : low, high, 0), 1);
                    due("square", p.distance(0, 13, d > 1 ? 14 : low, high), d > 1 ? 25 : 9);
                    p.build();
                    due("in the tree: WITHIN", ask(p, 1, with(cube(d, 0, 20), 2, low, high)), 2);
                    dueTold("in the tree", p, 0, 1, 2);
                    due("in the tree: apart", ask(p, 3, with(cube(d, 30, 40), 2, low, high)), 2);
                    due("no end", p.end(0, 2, 0), NOTHING);
                    due("no bound", p.bound(0, d, 0), NOTHING);
                }
            }
        }
    }

    public static void main(String[] args) {
        the512thCall();
        dimensionsAreOneToThree();
        axesOfTheDimensions();
        sixtyFourThings();
        thoseThatWentTakeRoom();
        refusedOnesTakeNoRoom();
        endsOfThings();
        lowNotAboveHigh();
        endsBelongToBoxes();
        withinAtTheEnds();
        noBlockWithoutThings();
        blocksOfAllCounts();
        fourAndFive();
        firstOfTheFarthestAxes();
        middlesCountNotEnds();
        likeOnesByNumbers();
        sixtyFourLikeOnes();
        boundsAtTheEnds();
        blocksStayWhenThingsGo();
        boundsOfWhatWentTell();
        looseTillBuild();
        looseWithoutBlocks();
        settledAtTheEnds();
        openedAndSettled();
        firstOfSeveralRefusals();
        axesThatThereAreNot();
        System.out.println(wrong == 0 ? "all Terms hold" : wrong + " answers are not as due");
        if (wrong != 0) {
            System.exit(1);
        }
    }
}
