import java.math.BigInteger;

/**
 * The boundary cases of promises 1 to 16: of each argument the least and the greatest value that is
 * taken and the next ones that are refused, and each call with no THINGS, one and 64.
 */
public final class PointTreesEdges {
    private static final long NOTHING = Long.MIN_VALUE;
    private static final int LEAST = Integer.MIN_VALUE;
    private static final int GREATEST = Integer.MAX_VALUE;
    private static final int FAR = 1000000;
    private static int wrong = 0;

    private static void due(String what, long got, long want) {
        if (got != want) {
            wrong++;
            System.out.println(what + " answered " + got + ", due is " + want);
        }
    }

    private static void dueTold(String what, PointTrees p, int opened, int settled, int inSettled) {
        due(what + ": opened", p.told(0), opened);
        due(what + ": settled", p.told(1), settled);
        due(what + ": found in settled", p.told(2), inSettled);
    }

    private static PointTrees space(int d) {
        PointTrees p = new PointTrees();
        p.dimensions(d);
        return p;
    }

    private static int point(PointTrees p, int x, int y, int z) {
        return p.thing(x, x, y, y, z, z);
    }

    private static int askAll(PointTrees p, int relation) {
        return p.range(relation, -FAR, FAR, -FAR, FAR, -FAR, FAR);
    }

    /** n points i, -i, 2 * i of d DIMENSIONS. */
    private static PointTrees points(int d, int n) {
        PointTrees p = space(d);
        for (int i = 0; i < n; i++) {
            point(p, i, -i, 2 * i);
        }
        return p;
    }

    private static void promise1New() {
        for (int relation = 0; relation < 4; relation++) {
            PointTrees p = new PointTrees();
            due("1 none in RELATION " + relation, askAll(p, relation), 0);
            due("1 none found", p.found(0), -1);
            dueTold("1 no BLOCK looked at", p, 0, 0, 0);
        }
        PointTrees p = new PointTrees();
        due("1 drop", p.drop(0), -1);
        due("1 count", p.count(), 0);
        due("1 block", p.block(0, 0), -1);
        due("1 bound", p.bound(0, 0, 0), NOTHING);
        due("1 build", p.build(), 0);
        due("1 nearest", p.nearest(0, 0, 0, 0), -1);
        due("1 distance", p.distance(0, 0, 0, 0), NOTHING);
        due("1 pairs", p.pairs(), 0);
        due("1 one DIMENSION: y and z do not count", p.thing(3, 3, 9, 1, 9, 1), 0);
        due("1 one DIMENSION: axis 0", p.end(0, 0, 0), 3);
        due("1 one DIMENSION: axis 1", p.end(0, 1, 0), NOTHING);
        due("1 objects are apart", new PointTrees().count(), 0);
    }

    private static void promise2Dimensions() {
        for (int from = 1; from <= 3; from++) {
            for (int to = 1; to <= 3; to++) {
                PointTrees p = points(from, 9);
                p.build();
                askAll(p, 0);
                due("2 " + from + " to " + to, p.dimensions(to), from);
                due("2 no THINGS", p.count(), 0);
                due("2 no THING 0", p.end(0, 0, 0), NOTHING);
                due("2 none to drop", p.drop(0), -1);
                due("2 no BLOCKS", p.block(0, 0), -1);
                due("2 no BOUNDS", p.bound(0, 0, 0), NOTHING);
                due("2 nothing found", p.found(0), -1);
                dueTold("2 nothing asked", p, 0, 0, 0);
                due("2 no pairs", p.pairs(), 0);
                due("2 none is nearest", p.nearest(0, 0, 0, 0), -1);
                due("2 no distance", p.distance(0, 0, 0, 0), NOTHING);
                due("2 none of them is found again", askAll(p, 0), 0);
                due("2 none of them is built again", p.build(), 0);
                due("2 numbers from 0", point(p, 5, 6, 7), 0);
                due("2 the new axes", p.end(0, to - 1, 0), 4 + to);
                due("2 no axis more", p.end(0, to, 0), NOTHING);
                due("2 they are told", p.dimensions(1), to);
            }
        }
    }

    private static void promise2LooseAnew() {
        PointTrees p = points(1, 9);
        p.build();
        p.dimensions(1);
        point(p, 1, 0, 0);
        due("2 the first new one is LOOSE", askAll(p, 0), 1);
        dueTold("2 the first new one is LOOSE", p, 0, 0, 0);
    }

    private static void promise3Thing() {
        PointTrees p = space(3);
        due("3 all ends at their ends", p.thing(-FAR, -FAR + 1, FAR - 1, FAR, -FAR, FAR), 0);
        long[] ends = {-FAR, -FAR + 1, FAR - 1, FAR, -FAR, FAR};
        for (int i = 0; i < 6; i++) {
            due("3 end " + i, p.end(0, i / 2, i % 2), ends[i]);
        }
        for (int i = 0; i < 6; i++) {
            int[] e = {0, 0, 0, 0, 0, 0};
            e[i] = i % 2 == 0 ? -FAR - 1 : FAR + 1;
            due("3 one end outside: " + i, p.thing(e[0], e[1], e[2], e[3], e[4], e[5]), -2);
            e[i] = i % 2 == 0 ? 1 : -1;
            due("3 one end beyond the other: " + i, p.thing(e[0], e[1], e[2], e[3], e[4], e[5]), -2);
            e[i] = i % 2 == 0 ? -FAR : FAR;
            due("3 one end as far as may be: " + i, p.thing(e[0], e[1], e[2], e[3], e[4], e[5]), i + 1);
        }
        due("3 seven are there", p.count(), 7);
    }

    private static void promise4Drop() {
        for (int n : new int[] {1, 5, 64}) {
            PointTrees p = points(2, n);
            due("4 below", p.drop(-1), -1);
            due("4 above", p.drop(n), -1);
            due("4 the last", p.drop(n - 1), n - 1);
            due("4 the last is gone", p.drop(n - 1), -1);
            for (int t = 0; t < n - 1; t++) {
                due("4 the first", p.drop(t), n - 2 - t);
                due("4 the first is gone", p.drop(t), -1);
            }
            due("4 none is there", p.count(), 0);
        }
        PointTrees p = points(1, 2);
        p.build();
        askAll(p, 0);
        p.drop(0);
        due("4 its end", p.end(0, 0, 0), NOTHING);
        due("4 its distance", p.distance(0, 0, 0, 0), NOTHING);
        due("4 the other one's end", p.end(1, 0, 0), 1);
        due("4 what was found stays", p.found(0), 0);
        dueTold("4 what was told stays", p, 0, 1, 2);
    }

    private static void promise5Count() {
        for (int n : new int[] {0, 1, 4, 5, 63, 64}) {
            PointTrees p = points(3, n);
            due("5 of " + n, p.count(), n);
            p.build();
            askAll(p, 3);
            due("5 of " + n + ", built and asked", p.count(), n);
        }
        PointTrees p = points(3, 64);
        point(p, 0, 0, 0);
        due("5 no room for one more", p.count(), 64);
        p.drop(64);
        p.drop(-1);
        due("5 none went", p.count(), 64);
        p.drop(0);
        point(p, 0, 0, 0);
        due("5 one went, none came", p.count(), 63);
    }

    private static void promise6End() {
        PointTrees p = points(3, 64);
        for (int t : new int[] {0, 63}) {
            for (int side = 0; side < 2; side++) {
                due("6 x of " + t, p.end(t, 0, side), t);
                due("6 y of " + t, p.end(t, 1, side), -t);
                due("6 z of " + t, p.end(t, 2, side), 2 * t);
            }
            for (int side : new int[] {LEAST, -1, 2, GREATEST}) {
                due("6 side " + side, p.end(t, 0, side), NOTHING);
            }
            for (int axis : new int[] {LEAST, -1, 3, GREATEST}) {
                due("6 axis " + axis, p.end(t, axis, 0), NOTHING);
                due("6 axis " + axis + ", HIGH", p.end(t, axis, 1), NOTHING);
            }
        }
        for (int t : new int[] {LEAST, -1, 64, GREATEST}) {
            due("6 THING " + t, p.end(t, 0, 0), NOTHING);
            due("6 THING " + t + ", last axis", p.end(t, 2, 1), NOTHING);
        }
        due("6 a side is no axis", p.end(0, 3, -2), NOTHING);
        due("6 an axis is no THING", p.end(1, -1, 2), NOTHING);
    }

    private static void promise7Build() {
        for (int d = 1; d <= 3; d++) {
            due("7 none", points(d, 0).build(), 0);
            due("7 one", points(d, 1).build(), 1);
            due("7 four", points(d, 4).build(), 1);
            due("7 five", points(d, 5).build(), 3);
            due("7 eight", points(d, 8).build(), 3);
            due("7 nine", points(d, 9).build(), 5);
            due("7 sixteen", points(d, 16).build(), 7);
            due("7 seventeen", points(d, 17).build(), 9);
            due("7 thirty-two", points(d, 32).build(), 15);
            due("7 thirty-three", points(d, 33).build(), 17);
            due("7 sixty-four", points(d, 64).build(), 31);
        }
        PointTrees p = points(3, 64);
        for (int n = 64; n > 0; n--) {
            p.build();
            due("7 of " + n + " that are there", p.block(0, 1), n);
            p.drop(n - 1);
        }
        due("7 of none that are there", p.build(), 0);
        due("7 count stays", p.count(), 0);
    }

    private static void promise8Block() {
        PointTrees p = points(1, 64);
        p.build();
        int[][] rows = {{0, 1, 64, 16, 0}, {15, 0, 4, 0, 4}, {16, 1, 32, 24, 1}, {30, 0, 4, 0, 4}};
        for (int[] row : rows) {
            for (int what = 0; what < 4; what++) {
                due("8 block(" + row[0] + ", " + what + ")", p.block(row[0], what), row[what + 1]);
            }
            for (int what : new int[] {LEAST, -1, 4, GREATEST}) {
                due("8 block(" + row[0] + ", " + what + ")", p.block(row[0], what), -2);
            }
        }
        for (int b : new int[] {LEAST, -1, 31, GREATEST}) {
            for (int what : new int[] {LEAST, -1, 0, 3, 4, GREATEST}) {
                due("8 block(" + b + ", " + what + ")", p.block(b, what), -1);
            }
        }
        p.drop(0);
        due("8 as it was made", p.block(0, 1), 64);
        for (int t = 5; t < 64; t++) {
            p.drop(t);
        }
        due("8 fewer BLOCKS anew", p.build(), 1);
        due("8 the last one", p.block(0, 1), 4);
        due("8 no other half any more", p.block(0, 2), 0);
        due("8 not PARTED any more", p.block(0, 0), 0);
        due("8 the next one is gone", p.block(1, 1), -1);
        due("8 the old last one is gone", p.block(30, 1), -1);
    }

    private static void promise9Bound() {
        PointTrees p = points(3, 64);
        due("9 none ahead of build()", p.bound(0, 0, 0), NOTHING);
        p.build();
        // Parted on z, whose numbers are farthest apart, first half first: 30 is of 60 to 63.
        long[] first = {0, 63, -63, 0, 0, 126};
        long[] last = {60, 63, -63, -60, 120, 126};
        for (int i = 0; i < 6; i++) {
            due("9 BLOCK 0, end " + i, p.bound(0, i / 2, i % 2), first[i]);
            due("9 BLOCK 30, end " + i, p.bound(30, i / 2, i % 2), last[i]);
        }
        for (int b : new int[] {LEAST, -1, 31, GREATEST}) {
            due("9 BLOCK " + b, p.bound(b, 0, 0), NOTHING);
        }
        for (int n : new int[] {LEAST, -1, 3, GREATEST}) {
            due("9 axis " + n, p.bound(30, n, 0), NOTHING);
            due("9 axis " + n + ", greatest", p.bound(30, n, 1), NOTHING);
        }
        for (int n : new int[] {LEAST, -1, 2, GREATEST}) {
            due("9 side " + n, p.bound(30, 0, n), NOTHING);
            due("9 side " + n + ", last axis", p.bound(30, 2, n), NOTHING);
        }
        p = space(1);
        p.thing(-FAR, FAR, 0, 0, 0, 0);
        p.build();
        due("9 least of all", p.bound(0, 0, 0), -FAR);
        due("9 greatest of all", p.bound(0, 0, 1), FAR);
    }

    private static void promise10Relations() {
        PointTrees p = points(1, 5);
        int[] wants = {5, 5, 0, 0};
        for (int relation = 0; relation < 4; relation++) {
            due("10 RELATION " + relation, askAll(p, relation), wants[relation]);
        }
        for (int relation : new int[] {LEAST, -1, 4, GREATEST}) {
            due("10 RELATION " + relation, askAll(p, relation), -2);
        }
        due("10 a RELATION and a box refused", p.range(4, 1, 0, 0, 0, 0, 0), -2);
        due("10 the latest that was taken", p.found(0), -1);
    }

    private static void promise10Box() {
        // A THING of all places meets and holds each box, and is within none but the whole one.
        int[] wants = {1, 0, 1, 0};
        for (int d = 1; d <= 3; d++) {
            PointTrees p = space(d);
            p.thing(-FAR, FAR, -FAR, FAR, -FAR, FAR);
            for (int relation = 0; relation < 4; relation++) {
                for (int i = 0; i < 2 * d; i++) {
                    int out = i % 2 == 0 ? -1 : 1;
                    String what = "10 RELATION " + relation + ", end " + i + " of " + d;
                    due(what + ", as far as may be", askWith(p, relation, i, out * FAR), wants[relation]);
                    due(what + ", one farther", askWith(p, relation, i, out * (FAR + 1)), -2);
                    due(what + ", farthest", askWith(p, relation, i, out * GREATEST), -2);
                    due(what + ", LOW is HIGH", askWith(p, relation, i, 0), wants[relation]);
                    due(what + ", LOW above HIGH", askWith(p, relation, i, -out), -2);
                    due(what + ", LOW far above HIGH", askWith(p, relation, i, -out * FAR), -2);
                    due(what + ", LOW farthest above HIGH", askWith(p, relation, i, -out * GREATEST), -2);
                }
            }
        }
    }

    /** The box of the origin alone, but for one end. */
    private static int askWith(PointTrees p, int relation, int i, int end) {
        int[] e = new int[6];
        e[i] = end;
        return p.range(relation, e[0], e[1], e[2], e[3], e[4], e[5]);
    }

    private static void promise10BothEndsOutside() {
        for (int relation = 0; relation < 4; relation++) {
            PointTrees p = points(1, 5);
            p.build();
            due("10 both below", p.range(relation, -FAR - 1, -FAR - 1, 0, 0, 0, 0), -2);
            due("10 both above", p.range(relation, FAR + 1, FAR + 1, 0, 0, 0, 0), -2);
            due("10 below and above", p.range(relation, -FAR - 1, FAR + 1, 0, 0, 0, 0), -2);
            due("10 least and greatest", p.range(relation, LEAST, GREATEST, 0, 0, 0, 0), -2);
            due("10 none was asked", p.found(0), -1);
            dueTold("10 none was asked", p, 0, 0, 0);
            due("10 lowest place", p.range(relation, -FAR, -FAR, 0, 0, 0, 0), relation == 3 ? 5 : 0);
            due("10 highest place", p.range(relation, FAR, FAR, 0, 0, 0, 0), relation == 3 ? 5 : 0);
        }
    }

    private static void promise10Counts() {
        for (int n : new int[] {0, 1, 4, 5, 64}) {
            for (int built = 0; built < 2; built++) {
                PointTrees p = points(2, n);
                if (built == 1) {
                    p.build();
                }
                due("10 MEET, of " + n, askAll(p, 0), n);
                due("10 WITHIN, of " + n, askAll(p, 1), n);
                due("10 holding, of " + n, p.range(2, 0, 0, 0, 0, 0, 0), Math.min(n, 1));
                due("10 apart, of " + n, p.range(3, -1, -1, 0, 0, 0, 0), n);
                due("10 all but one are apart, of " + n, p.range(3, 0, 0, 0, 0, 0, 0), Math.max(n - 1, 0));
            }
        }
    }

    private static void promise11Found() {
        for (int n : new int[] {0, 1, 5, 64}) {
            for (int built = 0; built < 2; built++) {
                // On y the numbers go the other way than the places.
                PointTrees p = points(2, n);
                if (built == 1) {
                    p.build();
                }
                due("11 ahead of range()", p.found(0), -1);
                askAll(p, 0);
                for (int k = 0; k < n; k++) {
                    due("11 the " + k + "-th of " + n, p.found(k), k);
                }
                for (int k : new int[] {LEAST, -1, n, GREATEST}) {
                    due("11 found(" + k + ") of " + n, p.found(k), -1);
                }
                p.range(0, -1, -1, 0, 0, 0, 0);
                due("11 none any more of " + n, p.found(0), -1);
            }
        }
    }

    private static void promise11ByNumbers() {
        PointTrees p = space(1);
        for (int i = 0; i < 20; i++) {
            point(p, i * 13 % 20, 0, 0);
        }
        p.build();
        point(p, 4, 0, 0);
        point(p, 3, 0, 0);
        // 3, 4, 5, 6 are the places of 11, 8, 5, 2; the two LOOSE ones are 20 and 21.
        due("11 in the tree and LOOSE", p.range(0, 3, 6, 0, 0, 0, 0), 6);
        int[] numbers = {2, 5, 8, 11, 20, 21};
        for (int k = 0; k < numbers.length; k++) {
            due("11 by numbers: " + k, p.found(k), numbers[k]);
        }
        due("11 and no more", p.found(numbers.length), -1);
        p.range(0, 6, 3, 0, 0, 0, 0);
        due("11 a refused range() is not the latest", p.found(5), 21);
        p.drop(2);
        p.drop(21);
        p.build();
        due("11 as it was found: those that went too", p.found(0), 2);
        due("11 as it was found: those that went too", p.found(5), 21);
    }

    private static void promise12Told() {
        PointTrees p = points(1, 64);
        for (int what : new int[] {LEAST, -1, 3, GREATEST}) {
            due("12 told(" + what + ") ahead of range()", p.told(what), -2);
        }
        dueTold("12 ahead of range()", p, 0, 0, 0);
        p.build();
        dueTold("12 ahead of range(), built", p, 0, 0, 0);
        askAll(p, 0);
        dueTold("12 one SETTLED BLOCK has all", p, 0, 1, 64);
        for (int what : new int[] {LEAST, -1, 3, GREATEST}) {
            due("12 told(" + what + ")", p.told(what), -2);
        }
        p.range(4, 0, 0, 0, 0, 0, 0);
        p.range(0, 1, 0, 0, 0, 0, 0);
        dueTold("12 a refused range() is not the latest", p, 0, 1, 64);
        p.range(0, 0, 0, 0, 0, 0, 0);
        dueTold("12 only the latest counts", p, 5, 4, 0);
        p.range(0, 0, 0, 0, 0, 0, 0);
        dueTold("12 the same again", p, 5, 4, 0);
        for (int t = 0; t < 64; t++) {
            p.drop(t);
        }
        p.build();
        dueTold("12 stays without BLOCKS", p, 5, 4, 0);
        askAll(p, 0);
        dueTold("12 no BLOCKS to look at", p, 0, 0, 0);
    }

    private static void promise12MostOpened() {
        // Long ones over all places: no BLOCK is within a box that ends one earlier, or apart from it.
        PointTrees p = space(1);
        for (int i = 0; i < 64; i++) {
            p.thing(-FAR, FAR, 0, 0, 0, 0);
        }
        p.build();
        due("12 all MEET", p.range(0, -FAR, FAR - 1, 0, 0, 0, 0), 64);
        dueTold("12 all BLOCKS are OPENED", p, 31, 0, 0);
        due("12 none is WITHIN", p.range(1, -FAR + 1, FAR, 0, 0, 0, 0), 0);
        dueTold("12 all BLOCKS are OPENED", p, 31, 0, 0);
        due("12 all hold it", p.range(2, -FAR, FAR, 0, 0, 0, 0), 64);
        dueTold("12 all BLOCKS are OPENED", p, 31, 0, 0);
        due("12 none is apart", p.range(3, 0, 0, 0, 0, 0, 0), 0);
        dueTold("12 all BLOCKS are OPENED", p, 31, 0, 0);
        due("12 all are WITHIN", p.range(1, -FAR, FAR, 0, 0, 0, 0), 64);
        dueTold("12 one is SETTLED", p, 0, 1, 64);
    }

    private static void promise13Number() {
        for (int n : new int[] {0, 1, 5, 64}) {
            PointTrees p = points(3, n);
            for (int k : new int[] {LEAST, -1, n, GREATEST}) {
                due("13 the " + k + "-th of " + n, p.nearest(0, 0, 0, k), -1);
            }
            for (int k = 0; k < n; k++) {
                due("13 the " + k + "-th of " + n, p.nearest(0, 0, 0, k), k);
                due("13 from the other side: " + k, p.nearest(FAR, -FAR, FAR, k), n - 1 - k);
            }
            if (n > 0) {
                p.drop(0);
                due("13 one fewer of " + n, p.nearest(0, 0, 0, n - 1), -1);
                due("13 the first one that is there of " + n, p.nearest(0, 0, 0, 0), n > 1 ? 1 : -1);
            }
        }
    }

    private static void promise13BehindWhatWent() {
        PointTrees p = space(1);
        point(p, 0, 0, 0);
        point(p, 5, 0, 0);
        point(p, 9, 0, 0);
        p.drop(0);
        due("13 of two that are left", p.nearest(4, 0, 0, 0), 1);
        due("13 the last one", p.nearest(4, 0, 0, 1), 2);
        due("13 from another place", p.nearest(9, 0, 0, 0), 2);
        due("13 and the other one", p.nearest(9, 0, 0, 1), 1);
    }

    private static void promise13LikeOnes() {
        PointTrees p = space(2);
        for (int i = 0; i < 64; i++) {
            int[][] around = {{3, 4}, {-4, 3}, {5, 0}, {0, -5}, {-3, -4}};
            point(p, around[i % 5][0], around[i % 5][1], i);
        }
        for (int k = 0; k < 64; k++) {
            due("13 like ones by numbers: " + k, p.nearest(0, 0, 0, k), k);
        }
        p.build();
        p.drop(31);
        due("13 built: up to what went", p.nearest(0, 0, 0, 30), 30);
        due("13 built: behind what went", p.nearest(0, 0, 0, 31), 32);
        due("13 built: the last one", p.nearest(0, 0, 0, 62), 63);
        due("13 built: no more", p.nearest(0, 0, 0, 63), -1);
    }

    /** A place on one axis alone; axes that there are not have numbers that no place may have. */
    private static int[] place(int d, int axis, int at) {
        int[] all = new int[3];
        for (int i = 0; i < 3; i++) {
            all[i] = i == axis ? at : i < d ? 0 : (i == 1 ? LEAST : GREATEST);
        }
        return all;
    }

    // "of a place (of -1000000 to 1000000)", for nearest() and distance()
    private static void promise13And14Place() {
        for (int d = 1; d <= 3; d++) {
            for (int axis = 0; axis < d; axis++) {
                PointTrees p = space(d);
                point(p, 0, 0, 0);
                for (int at : new int[] {-FAR, -1, 0, 1, FAR}) {
                    int[] e = place(d, axis, at);
                    due("13 place " + at, p.nearest(e[0], e[1], e[2], 0), 0);
                    due("14 place " + at, p.distance(0, e[0], e[1], e[2]), (long) at * at);
                }
                for (int at : new int[] {LEAST, -FAR - 1, FAR + 1, GREATEST}) {
                    int[] e = place(d, axis, at);
                    due("13 place " + at, p.nearest(e[0], e[1], e[2], 0), -2);
                    due("13 place " + at + ", no number", p.nearest(e[0], e[1], e[2], 1), -1);
                    due("14 place " + at, p.distance(0, e[0], e[1], e[2]), NOTHING);
                }
            }
        }
    }

    private static void promise13GreatSquares() {
        // 46341 and 65536 are the first ones whose squares are too great for an int, with and without a sign.
        int[] places = {FAR, 65536, 65535, 46341, 46340, 1, 0};
        PointTrees p = space(1);
        for (int place : places) {
            point(p, place, 0, 0);
        }
        for (int k = 0; k < places.length; k++) {
            due("13 great squares: " + k, p.nearest(0, 0, 0, k), places.length - 1 - k);
            due("14 great squares: " + k, p.distance(k, 0, 0, 0), (long) places[k] * places[k]);
        }
    }

    // "the next point of a THING", at each end and one beyond it
    private static void promise14NextPoint() {
        for (int d = 1; d <= 3; d++) {
            for (int axis = 0; axis < d; axis++) {
                PointTrees p = space(d);
                p.thing(-10, 10, -10, 10, -10, 10);
                int[][] rows = {{-12, 4}, {-11, 1}, {-10, 0}, {-9, 0}, {0, 0}, {9, 0}, {10, 0}, {11, 1}, {12, 4}};
                for (int[] row : rows) {
                    int[] e = place(d, axis, row[0]);
                    due("14 " + row[0] + " on " + axis + " of " + d, p.distance(0, e[0], e[1], e[2]), row[1]);
                }
            }
        }
        PointTrees p = space(3);
        point(p, -FAR, FAR, -FAR);
        due("14 farthest of three", p.distance(0, FAR, -FAR, FAR), 12000000000000L);
        p.dimensions(2);
        point(p, -FAR, FAR, -FAR);
        due("14 farthest of two", p.distance(0, FAR, -FAR, FAR), 8000000000000L);
        p.dimensions(1);
        point(p, -FAR, FAR, -FAR);
        due("14 farthest of one", p.distance(0, FAR, -FAR, FAR), 4000000000000L);
    }

    private static void promise14Number() {
        PointTrees p = points(1, 64);
        due("14 the first", p.distance(0, 0, 0, 0), 0);
        due("14 the last", p.distance(63, 0, 0, 0), 63 * 63);
        for (int t : new int[] {LEAST, -1, 64, GREATEST}) {
            due("14 THING " + t, p.distance(t, 0, 0, 0), NOTHING);
        }
        p.drop(63);
        due("14 it went", p.distance(63, 0, 0, 0), NOTHING);
        due("14 of none", new PointTrees().distance(0, 0, 0, 0), NOTHING);
    }

    private static void promise15Pairs() {
        for (int d = 1; d <= 3; d++) {
            PointTrees p = space(d);
            due("15 of none", p.pairs(), 0);
            for (int n = 1; n <= 64; n++) {
                point(p, FAR, -FAR, FAR);
                due("15 of " + n + " like ones", p.pairs(), n * (n - 1) / 2);
            }
            for (int n = 63; n >= 0; n--) {
                p.drop(63 - n);
                due("15 of " + n + " that are left", p.pairs(), n * (n - 1) / 2);
            }
        }
        due("15 none of 64 meet", points(3, 64).pairs(), 0);
        PointTrees p = space(1);
        for (int i = 0; i < 64; i++) {
            p.thing(i, i + 1, 0, 0, 0, 0);
        }
        due("15 each meets the next one", p.pairs(), 63);
    }

    private static final long[] TIMES = {Long.MIN_VALUE, Long.MIN_VALUE + 1, -86401, -86400, -86399, -2, -1, 0, 1, 2,
        86399, 86400, 86401, Long.MAX_VALUE - 1, Long.MAX_VALUE};

    private static void promise16Day() {
        long[] sizes = {1, 2, 3, 86400, 1L << 32, Long.MAX_VALUE - 1, Long.MAX_VALUE};
        PointTrees p = new PointTrees();
        for (long size : sizes) {
            for (long time : TIMES) {
                BigInteger day = BigInteger.valueOf(p.day(time, size));
                BigInteger start = day.multiply(BigInteger.valueOf(size));
                BigInteger end = start.add(BigInteger.valueOf(size));
                BigInteger at = BigInteger.valueOf(time);
                due("16 day(" + time + ", " + size + ") is above the time", start.compareTo(at) > 0 ? 1 : 0, 0);
                due("16 day(" + time + ", " + size + ") is not the greatest", end.compareTo(at) <= 0 ? 1 : 0, 0);
            }
        }
    }

    private static void promise16Refusals() {
        PointTrees p = new PointTrees();
        for (long time : TIMES) {
            for (long size : new long[] {-1, -2, -86400, Long.MIN_VALUE + 1, Long.MIN_VALUE}) {
                due("16 day(" + time + ", " + size + ")", p.day(time, size), NOTHING);
            }
            due("16 day(" + time + ", 0) throws", throwsOnZero(p, time) ? 1 : 0, 1);
        }
        due("16 the object goes on", p.day(-1, 1), -1);
    }

    private static boolean throwsOnZero(PointTrees p, long time) {
        try {
            p.day(time, 0);
            return false;
        } catch (RuntimeException e) {
            return e.getClass() == ArithmeticException.class;
        }
    }

    public static void main(String[] args) {
        promise1New();
        promise2Dimensions();
        promise2LooseAnew();
        promise3Thing();
        promise4Drop();
        promise5Count();
        promise6End();
        promise7Build();
        promise8Block();
        promise9Bound();
        promise10Relations();
        promise10Box();
        promise10BothEndsOutside();
        promise10Counts();
        promise11Found();
        promise11ByNumbers();
        promise12Told();
        promise12MostOpened();
        promise13Number();
        promise13BehindWhatWent();
        promise13LikeOnes();
        promise13And14Place();
        promise13GreatSquares();
        promise14NextPoint();
        promise14Number();
        promise15Pairs();
        promise16Day();
        promise16Refusals();
        System.out.println(wrong == 0 ? "all boundary cases hold" : wrong + " answers are not as due");
        if (wrong != 0) {
            System.exit(1);
        }
    }
}
