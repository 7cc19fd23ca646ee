/** Each promise of the document by hand: ordinary inputs, the edges it names, wrong inputs. */
public final class PointTreesPromises {
    private static final long NOTHING = Long.MIN_VALUE;
    private static final int LEAST = Integer.MIN_VALUE;
    private static final int GREATEST = Integer.MAX_VALUE;
    private static int wrong = 0;

    private static void due(String what, long got, long want) {
        if (got != want) {
            wrong++;
            System.out.println(what + " answered " + got + ", due is " + want);
        }
    }

    /** A new object of d DIMENSIONS. */
    private static PointTrees space(int d) {
        PointTrees p = new PointTrees();
        p.dimensions(d);
        return p;
    }

    /** A point or stretch on one axis; the other axes are given numbers that must not count. */
    private static int line(PointTrees p, int low, int high) {
        return p.thing(low, high, GREATEST, LEAST, 5, -5);
    }

    private static int askLine(PointTrees p, int relation, int low, int high) {
        return p.range(relation, low, high, GREATEST, LEAST, 5, -5);
    }

    /** Points 0, 10, 20, .. on one axis, n of them. */
    private static PointTrees tens(int n) {
        PointTrees p = new PointTrees();
        for (int i = 0; i < n; i++) {
            line(p, 10 * i, 10 * i);
        }
        return p;
    }

    private static void dueTold(String what, PointTrees p, int opened, int settled, int inSettled) {
        due(what + ": opened", p.told(0), opened);
        due(what + ": settled", p.told(1), settled);
        due(what + ": found in settled", p.told(2), inSettled);
    }

    private static void dueFound(String what, PointTrees p, int... numbers) {
        for (int k = 0; k < numbers.length; k++) {
            due(what + ": found(" + k + ")", p.found(k), numbers[k]);
        }
        due(what + ": found past the end", p.found(numbers.length), -1);
    }

    private static void promise1New() {
        due("1 NOTHING", PointTrees.NOTHING, NOTHING);
        PointTrees p = new PointTrees();
        due("1 count", p.count(), 0);
        due("1 no BLOCK", p.block(0, 0), -1);
        due("1 no bound", p.bound(0, 0, 0), NOTHING);
        due("1 no THING", p.end(0, 0, 0), NOTHING);
        due("1 nothing found", p.found(0), -1);
        dueTold("1 ahead of range()", p, 0, 0, 0);
        due("1 pairs", p.pairs(), 0);
        due("1 one DIMENSION", p.dimensions(1), 1);
    }

    private static void promise2Dimensions() {
        PointTrees p = tens(6);
        p.build();
        askLine(p, 0, 0, 100);
        due("2 below", p.dimensions(0), -2);
        due("2 above", p.dimensions(4), -2);
        due("2 least", p.dimensions(LEAST), -2);
        due("2 greatest", p.dimensions(GREATEST), -2);
        due("2 a refusal keeps THINGS", p.count(), 6);
        due("2 a refusal keeps BLOCKS", p.block(0, 1), 6);
        due("2 a refusal keeps what was found", p.found(5), 5);
        due("2 the first ones", p.dimensions(3), 1);
        due("2 no THINGS", p.count(), 0);
        due("2 no THING 0", p.end(0, 0, 0), NOTHING);
        due("2 no BLOCKS", p.block(0, 0), -1);
        due("2 nothing found", p.found(0), -1);
        dueTold("2 nothing asked", p, 0, 0, 0);
        due("2 numbers begin anew", p.thing(1, 2, 3, 4, 5, 6), 0);
        due("2 three axes", p.end(0, 2, 1), 6);
        due("2 what went is not found", p.range(0, -1000000, 1000000, -1000000, 1000000, -1000000, 1000000), 1);
        due("2 three", p.dimensions(2), 3);
        due("2 two", p.dimensions(2), 2);
    }

    private static void promise3Thing() {
        PointTrees p = new PointTrees();
        due("3 low end", line(p, -1000000, -1000000), 0);
        due("3 high end", line(p, 1000000, 1000000), 1);
        due("3 whole", line(p, -1000000, 1000000), 2);
        due("3 below", line(p, -1000001, 0), -2);
        due("3 above", line(p, 0, 1000001), -2);
        due("3 turned", line(p, 1, 0), -2);
        due("3 least", line(p, LEAST, LEAST), -2);
        due("3 greatest", line(p, GREATEST, GREATEST), -2);
        due("3 refusals take no number", line(p, 0, 0), 3);
        due("3 count", p.count(), 4);
        promise3Axes();
        promise3Room();
    }

    private static void promise3Axes() {
        PointTrees p = space(2);
        due("3 y below", p.thing(0, 0, -1000001, 0, 0, 0), -2);
        due("3 y above", p.thing(0, 0, 0, 1000001, 0, 0), -2);
        due("3 y turned", p.thing(0, 0, 1, 0, 0, 0), -2);
        due("3 z does not count", p.thing(0, 0, 0, 0, GREATEST, LEAST), 0);
        p = space(3);
        due("3 z below", p.thing(0, 0, 0, 0, -1000001, 0), -2);
        due("3 z above", p.thing(0, 0, 0, 0, 0, 1000001), -2);
        due("3 z turned", p.thing(0, 0, 0, 0, 1, 0), -2);
        due("3 z", p.thing(0, 0, 0, 0, 0, 1), 0);
    }

    private static void promise3Room() {
        PointTrees p = tens(64);
        due("3 full", p.count(), 64);
        due("3 no room", line(p, 0, 0), -4);
        due("3 outside goes ahead of no room", line(p, 1, 0), -2);
        due("3 drop the last", p.drop(63), 63);
        due("3 those that went count", line(p, 0, 0), -4);
        due("3 the refused one is not there", p.end(63, 0, 0), NOTHING);
        p.dimensions(1);
        due("3 room since DIMENSIONS were told", line(p, 0, 0), 0);
    }

    private static void promise4Drop() {
        PointTrees p = tens(3);
        due("4 below", p.drop(-1), -1);
        due("4 above", p.drop(3), -1);
        due("4 at the row's end", p.drop(64), -1);
        due("4 least", p.drop(LEAST), -1);
        due("4 greatest", p.drop(GREATEST), -1);
        due("4 one", p.drop(1), 2);
        due("4 the same", p.drop(1), -1);
        due("4 the others stay", p.end(2, 0, 0), 20);
        due("4 first", p.drop(0), 1);
        due("4 last", p.drop(2), 0);
        due("4 a number is not given twice", line(p, 7, 7), 3);
    }

    private static void promise5Count() {
        PointTrees p = tens(5);
        due("5 five", p.count(), 5);
        p.drop(2);
        due("5 four", p.count(), 4);
        p.drop(2);
        line(p, 1, 0);
        due("5 refusals do not count", p.count(), 4);
        p.build();
        due("5 build() leaves it", p.count(), 4);
        line(p, 0, 0);
        due("5 LOOSE ones count", p.count(), 5);
    }

    private static void promise6End() {
        PointTrees p = space(3);
        p.thing(9, 9, 9, 9, 9, 9);
        p.thing(1, 2, 3, 4, 5, 6);
        for (int axis = 0; axis < 3; axis++) {
            due("6 low " + axis, p.end(1, axis, 0), 2 * axis + 1);
            due("6 high " + axis, p.end(1, axis, 1), 2 * axis + 2);
        }
        due("6 axis below", p.end(1, -1, 0), NOTHING);
        due("6 axis above", p.end(1, 3, 0), NOTHING);
        due("6 side below", p.end(1, 1, -1), NOTHING);
        due("6 side above", p.end(1, 1, 2), NOTHING);
        due("6 number below", p.end(-1, 0, 0), NOTHING);
        due("6 number above", p.end(2, 0, 0), NOTHING);
        due("6 least", p.end(LEAST, LEAST, LEAST), NOTHING);
        due("6 greatest", p.end(GREATEST, GREATEST, GREATEST), NOTHING);
        p.drop(1);
        due("6 gone", p.end(1, 0, 0), NOTHING);
        p.dimensions(2);
        p.thing(1, 2, 3, 4, 5, 6);
        due("6 axis 1 of two", p.end(0, 1, 1), 4);
        due("6 axis 2 of two", p.end(0, 2, 1), NOTHING);
    }

    private static void promise7Build() {
        int[] blocks = {0, 1, 1, 1, 1, 3, 3, 3, 3, 5, 7, 7, 7, 7, 7, 7, 7, 9};
        for (int n = 0; n < blocks.length; n++) {
            due("7 blocks of " + n, tens(n).build(), blocks[n]);
        }
        due("7 blocks of 64", tens(64).build(), 31);
        PointTrees p = tens(9);
        p.build();
        due("7 the same again", p.build(), 5);
        for (int t = 0; t < 5; t++) {
            p.drop(t);
        }
        due("7 BLOCKS stay", p.block(4, 1), 4);
        due("7 only those that are there", p.build(), 1);
        due("7 four of them", p.block(0, 1), 4);
        due("7 the old BLOCKS are gone", p.block(1, 0), -1);
        line(p, 0, 0);
        due("7 with the LOOSE one", p.build(), 3);
        for (int t = 5; t < 10; t++) {
            p.drop(t);
        }
        due("7 no BLOCK without THINGS", p.build(), 0);
        due("7 none", p.block(0, 0), -1);
    }

    private static void promise7KeepsAsked() {
        PointTrees p = tens(6);
        p.build();
        askLine(p, 0, 0, 100);
        p.build();
        due("7 what was found stays", p.found(5), 5);
        dueTold("7 what was told stays", p, 0, 1, 6);
    }

    private static void promise7Order() {
        PointTrees p = new PointTrees();
        // Middles are 5, 5, 5, 0, 5: the first half is THING 3, then the like ones by numbers.
        line(p, 5, 5);
        line(p, 4, 6);
        line(p, 0, 10);
        line(p, 0, 0);
        line(p, 5, 5);
        due("7 of five", p.build(), 3);
        due("7 first half: three", p.block(1, 1), 3);
        due("7 first half: least", p.bound(1, 0, 0), 0);
        due("7 first half: greatest", p.bound(1, 0, 1), 6);
        due("7 other half: greatest", p.bound(2, 0, 1), 10);
    }

    private static void promise7Axis() {
        PointTrees p = space(3);
        for (int i = 0; i < 5; i++) {
            p.thing(i, i, 4 - i, 4 - i, 100 - i, 100 + i);
        }
        p.build();
        due("7 like axes: the first one", p.bound(1, 0, 1), 2);
        p = space(3);
        for (int i = 0; i < 5; i++) {
            p.thing(0, 5 - i, 10 - 2 * i, 10 - 2 * i, 2 * i, 2 * i);
        }
        p.build();
        due("7 axis 1 is the farther one", p.bound(1, 1, 1), 6);
        p = space(3);
        for (int i = 0; i < 5; i++) {
            p.thing(i, i, i, i, -2 * i, -2 * i);
        }
        p.build();
        due("7 axis 2 is the farther one", p.bound(1, 2, 1), -4);
        p = space(2);
        for (int i = 0; i < 5; i++) {
            p.thing(i, i, -i, -i, 100 * i, 100 * i);
        }
        p.build();
        due("7 axis 2 is none of two", p.bound(1, 0, 1), 2);
    }

    private static void promise7LikeOnes() {
        PointTrees p = space(2);
        // Parted on x first, which turns the numbers round, then on y, where all but one are alike.
        for (int i = 0; i < 10; i++) {
            p.thing(-100 * i, -100 * i, 0, i == 5 ? 999 : 0, 0, 0);
        }
        due("7 of ten", p.build(), 7);
        due("7 parted on y: like ones by numbers", p.bound(2, 0, 0), -800);
        due("7 parted on y: like ones by numbers", p.bound(2, 0, 1), -600);
        due("7 parted on y: the rest", p.bound(3, 0, 0), -900);
        due("7 parted on y: the rest", p.bound(3, 1, 1), 999);
    }

    private static void promise8Block() {
        PointTrees p = tens(17);
        due("8 ahead of build()", p.block(0, 0), -1);
        p.build();
        int[] parted = {1, 1, 1, 0, 0, 0, 1, 0, 0};
        int[] sizes = {17, 9, 5, 3, 2, 4, 8, 4, 4};
        int[] others = {6, 5, 4, 0, 0, 0, 8, 0, 0};
        int[] depths = {0, 1, 2, 3, 3, 2, 1, 2, 2};
        for (int b = 0; b < 9; b++) {
            due("8 parted " + b, p.block(b, 0), parted[b]);
            due("8 size " + b, p.block(b, 1), sizes[b]);
            due("8 other half of " + b, p.block(b, 2), others[b]);
            due("8 depth of " + b, p.block(b, 3), depths[b]);
        }
        due("8 BLOCK above", p.block(9, 0), -1);
        due("8 BLOCK below", p.block(-1, 0), -1);
        due("8 no BLOCK goes ahead", p.block(9, 4), -1);
        due("8 what below", p.block(0, -1), -2);
        due("8 what above", p.block(0, 4), -2);
        due("8 least", p.block(LEAST, LEAST), -1);
        due("8 greatest", p.block(GREATEST, GREATEST), -1);
        p.drop(0);
        line(p, 0, 0);
        due("8 as it was made", p.block(0, 1), 17);
        due("8 its part too", p.block(3, 1), 3);
    }

    private static void promise9Bound() {
        PointTrees p = space(3);
        p.thing(1, 2, -5, 5, 0, 0);
        p.thing(-3, 7, 0, 9, 4, 4);
        due("9 ahead of build()", p.bound(0, 0, 0), NOTHING);
        p.build();
        long[] ends = {-3, 7, -5, 9, 0, 4};
        for (int i = 0; i < 6; i++) {
            due("9 end " + i, p.bound(0, i / 2, i % 2), ends[i]);
        }
        p.drop(1);
        p.thing(100, 100, 100, 100, 100, 100);
        for (int i = 0; i < 6; i++) {
            due("9 stays " + i, p.bound(0, i / 2, i % 2), ends[i]);
        }
        due("9 BLOCK above", p.bound(1, 0, 0), NOTHING);
        due("9 BLOCK below", p.bound(-1, 0, 0), NOTHING);
        due("9 axis above", p.bound(0, 3, 0), NOTHING);
        due("9 axis below", p.bound(0, -1, 0), NOTHING);
        due("9 side above", p.bound(0, 0, 2), NOTHING);
        due("9 side below", p.bound(0, 0, -1), NOTHING);
        due("9 least", p.bound(LEAST, LEAST, LEAST), NOTHING);
        due("9 greatest", p.bound(GREATEST, GREATEST, GREATEST), NOTHING);
        p.build();
        due("9 made anew", p.bound(0, 0, 0), 1);
        due("9 made anew", p.bound(0, 0, 1), 100);
    }

    private static void promise10Relations() {
        PointTrees p = new PointTrees();
        line(p, 0, 4);
        line(p, 4, 6);
        line(p, 5, 5);
        line(p, 6, 9);
        line(p, 2, 8);
        line(p, 7, 9);
        for (int built = 0; built < 2; built++) {
            due("10 meet", askLine(p, 0, 4, 6), 5);
            dueFound("10 meet", p, 0, 1, 2, 3, 4);
            due("10 within", askLine(p, 1, 4, 6), 2);
            dueFound("10 within", p, 1, 2);
            due("10 holds", askLine(p, 2, 4, 6), 2);
            dueFound("10 holds", p, 1, 4);
            due("10 apart", askLine(p, 3, 4, 6), 1);
            dueFound("10 apart", p, 5);
            due("10 a point", askLine(p, 2, 5, 5), 3);
            dueFound("10 a point", p, 1, 2, 4);
            p.build();
        }
    }

    private static void promise10Axes() {
        PointTrees p = space(3);
        p.thing(0, 2, 0, 2, 0, 2);
        due("10 ends meet on all axes", p.range(0, 2, 3, 2, 3, 2, 3), 1);
        due("10 apart on the first", p.range(3, 3, 4, 0, 2, 0, 2), 1);
        due("10 apart on the second", p.range(3, 0, 2, 3, 4, 0, 2), 1);
        due("10 apart on the third", p.range(3, 0, 2, 0, 2, 3, 4), 1);
        due("10 not within on the third", p.range(1, 0, 2, 0, 2, 0, 1), 0);
        due("10 holds", p.range(2, 1, 1, 0, 2, 2, 2), 1);
        due("10 does not hold on the third", p.range(2, 1, 1, 0, 2, 2, 3), 0);
        p = space(2);
        p.thing(0, 2, 0, 2, 0, 2);
        due("10 the third is none of two", p.range(1, 0, 2, 0, 2, 9, 1), 1);
        due("10 the second counts", p.range(1, 0, 2, 0, 1, 0, 2), 0);
    }

    private static void promise10AxesThatThereAreNot() {
        for (int relation = 0; relation < 4; relation++) {
            PointTrees p = new PointTrees();
            for (int i = 0; i < 5; i++) {
                p.thing(0, 9, i, -i, LEAST, GREATEST);
            }
            int want = relation == 3 ? 0 : 5;
            due("10 LOOSE " + relation, p.range(relation, 0, 9, 7, 7, 5, -5), want);
            p.build();
            due("10 built " + relation, p.range(relation, 0, 9, GREATEST, GREATEST, 5, -5), want);
        }
    }

    private static void promise10Full() {
        PointTrees p = tens(64);
        for (int built = 0; built < 2; built++) {
            due("10 all of 64", askLine(p, 0, 0, 630), 64);
            due("10 the last of 64", p.found(63), 63);
            due("10 past 64", p.found(64), -1);
            p.build();
        }
        askLine(p, 1, 1, 629);
        dueTold("10 of 64 but both ends", p, 9, 6, 56);
    }

    private static void promise10Refusals() {
        PointTrees p = tens(6);
        p.build();
        askLine(p, 0, 15, 100);
        due("10 relation below", askLine(p, -1, 0, 0), -2);
        due("10 relation above", askLine(p, 4, 0, 0), -2);
        due("10 least", p.range(LEAST, LEAST, LEAST, LEAST, LEAST, LEAST, LEAST), -2);
        due("10 turned", askLine(p, 0, 1, 0), -2);
        due("10 below", askLine(p, 0, -1000001, 0), -2);
        due("10 above", askLine(p, 0, 0, 1000001), -2);
        dueFound("10 a refusal keeps what was found", p, 2, 3, 4, 5);
        dueTold("10 a refusal keeps what was told", p, 2, 1, 3);
        due("10 the whole line", askLine(p, 0, -1000000, 1000000), 6);
        p = space(3);
        due("10 y turned", p.range(0, 0, 0, 1, 0, 0, 0), -2);
        due("10 z turned", p.range(0, 0, 0, 0, 0, 1, 0), -2);
        due("10 y above", p.range(0, 0, 0, 0, 1000001, 0, 0), -2);
        due("10 z below", p.range(0, 0, 0, 0, 0, -1000001, 0), -2);
    }

    private static void promise10DropAndLoose() {
        PointTrees p = tens(6);
        p.build();
        p.drop(1);
        p.drop(5);
        line(p, 30, 30);
        due("10 dropped ones are looked at no more", askLine(p, 0, 0, 100), 5);
        dueFound("10 dropped ones", p, 0, 2, 3, 4, 6);
        dueTold("10 dropped and LOOSE ones", p, 0, 1, 4);
        due("10 opened, dropped and LOOSE", askLine(p, 0, 15, 35), 3);
        dueFound("10 opened, dropped and LOOSE", p, 2, 3, 6);
        p.drop(6);
        due("10 a LOOSE one that went", askLine(p, 0, 15, 35), 2);
    }

    private static void promise11Found() {
        PointTrees p = new PointTrees();
        for (int i = 0; i < 8; i++) {
            line(p, -i, -i);
        }
        p.build();
        due("11 nothing ahead of range()", p.found(0), -1);
        askLine(p, 1, -6, -2);
        dueFound("11 by numbers, not by places", p, 2, 3, 4, 5, 6);
        due("11 below", p.found(-1), -1);
        due("11 least", p.found(LEAST), -1);
        due("11 greatest", p.found(GREATEST), -1);
        p.drop(3);
        line(p, -3, -3);
        dueFound("11 as the latest range() found", p, 2, 3, 4, 5, 6);
        askLine(p, 1, -6, -2);
        dueFound("11 asked anew", p, 2, 4, 5, 6, 8);
        askLine(p, 1, 100, 100);
        dueFound("11 none", p);
    }

    private static void promise12Told() {
        PointTrees p = tens(8);
        askLine(p, 0, 0, 100);
        dueTold("12 all LOOSE", p, 0, 0, 0);
        p.build();
        dueTold("12 build() leaves it", p, 0, 0, 0);
        askLine(p, 0, 0, 30);
        dueTold("12 both parts settled", p, 1, 2, 4);
        askLine(p, 1, 0, 70);
        dueTold("12 within at the ends", p, 0, 1, 8);
        askLine(p, 1, 0, 69);
        dueTold("12 one part opened", p, 2, 1, 4);
        askLine(p, 0, 71, 80);
        dueTold("12 apart: none", p, 0, 1, 0);
        askLine(p, 3, 71, 80);
        dueTold("12 apart: all", p, 0, 1, 8);
        askLine(p, 3, 0, 70);
        dueTold("12 within: none is apart", p, 0, 1, 0);
        askLine(p, 3, 0, 35);
        dueTold("12 one part in, one apart", p, 1, 2, 4);
        askLine(p, 2, 10, 20);
        dueTold("12 one part may hold it", p, 2, 1, 0);
        askLine(p, 2, 30, 40);
        dueTold("12 no part holds it", p, 1, 2, 0);
        askLine(p, 2, 0, 71);
        dueTold("12 not within the BOUNDS", p, 0, 1, 0);
        due("12 what below", p.told(-1), -2);
        due("12 what above", p.told(3), -2);
        due("12 least", p.told(LEAST), -2);
        due("12 greatest", p.told(GREATEST), -2);
    }

    private static void promise12AfterDrops() {
        PointTrees p = tens(8);
        p.build();
        for (int t = 0; t < 4; t++) {
            p.drop(t);
        }
        askLine(p, 0, 15, 100);
        dueTold("12 a BLOCK whose THINGS went is opened still", p, 2, 1, 4);
        askLine(p, 0, 0, 100);
        dueTold("12 only those that are there are found", p, 0, 1, 4);
    }

    private static void promise13Nearest() {
        PointTrees p = new PointTrees();
        line(p, 10, 20);
        line(p, 0, 4);
        line(p, 6, 6);
        line(p, 2, 8);
        int[] order = {3, 1, 2, 0};
        for (int k = 0; k < 4; k++) {
            due("13 the " + k + "-th", p.nearest(5, GREATEST, LEAST, k), order[k]);
        }
        due("13 k below", p.nearest(5, 0, 0, -1), -1);
        due("13 k above", p.nearest(5, 0, 0, 4), -1);
        due("13 k least", p.nearest(5, 0, 0, LEAST), -1);
        due("13 k greatest", p.nearest(5, 0, 0, GREATEST), -1);
        due("13 no number goes ahead", p.nearest(1000001, 0, 0, 4), -1);
        due("13 above", p.nearest(1000001, 0, 0, 0), -2);
        due("13 below", p.nearest(-1000001, 0, 0, 0), -2);
        due("13 high end", p.nearest(1000000, 0, 0, 0), 0);
        due("13 low end", p.nearest(-1000000, 0, 0, 0), 1);
        p.drop(3);
        due("13 what went does not count", p.nearest(5, 0, 0, 0), 1);
        due("13 nor for k", p.nearest(5, 0, 0, 3), -1);
        p.build();
        line(p, 5, 5);
        due("13 LOOSE ones count", p.nearest(5, 0, 0, 0), 4);
        promise13Axes();
    }

    private static void promise13Axes() {
        PointTrees p = space(3);
        p.thing(3, 3, 4, 4, 0, 0);
        p.thing(0, 0, 0, 0, 5, 5);
        p.thing(2, 2, 2, 2, 4, 4);
        p.thing(-9, 9, -9, 9, 5, 9);
        due("13 all axes count", p.nearest(0, 0, 0, 0), 2);
        due("13 like ones by numbers", p.nearest(0, 0, 0, 1), 0);
        due("13 like ones by numbers", p.nearest(0, 0, 0, 2), 1);
        due("13 like ones by numbers", p.nearest(0, 0, 0, 3), 3);
        due("13 y above", p.nearest(0, 1000001, 0, 0), -2);
        due("13 z below", p.nearest(0, 0, -1000001, 0), -2);
        p = space(1);
        p.thing(1, 1, 50, 50, 50, 50);
        p.thing(2, 2, 0, 0, 0, 0);
        due("13 y and z do not count", p.nearest(0, 0, 0, 0), 0);
        p.dimensions(2);
        p.thing(1, 1, 1, 1, 50, 50);
        p.thing(1, 1, 2, 2, 0, 0);
        due("13 y counts, z does not", p.nearest(0, 0, 0, 0), 0);
        p = space(3);
        p.thing(1000000, 1000000, 1000000, 1000000, 1000000, 1000000);
        p.thing(999999, 999999, 1000000, 1000000, 1000000, 1000000);
        due("13 great squares", p.nearest(-1000000, -1000000, -1000000, 0), 1);
    }

    private static void promise14Distance() {
        PointTrees p = space(3);
        p.thing(1, 2, 1, 2, 1, 2);
        due("14 inside", p.distance(0, 1, 2, 1), 0);
        due("14 a side", p.distance(0, 5, 1, 1), 9);
        due("14 an edge", p.distance(0, 5, -3, 1), 25);
        due("14 a corner", p.distance(0, 5, -3, 3), 26);
        p.thing(1000000, 1000000, 1000000, 1000000, 1000000, 1000000);
        due("14 farthest", p.distance(1, -1000000, -1000000, -1000000), 12000000000000L);
        due("14 no THING", p.distance(2, 0, 0, 0), NOTHING);
        due("14 below", p.distance(-1, 0, 0, 0), NOTHING);
        due("14 least", p.distance(LEAST, 0, 0, 0), NOTHING);
        due("14 greatest", p.distance(GREATEST, 0, 0, 0), NOTHING);
        due("14 x outside", p.distance(0, -1000001, 0, 0), NOTHING);
        due("14 y outside", p.distance(0, 0, 1000001, 0), NOTHING);
        due("14 z outside", p.distance(0, 0, 0, LEAST), NOTHING);
        p.drop(0);
        due("14 gone", p.distance(0, 0, 0, 0), NOTHING);
        p = space(2);
        p.thing(0, 0, 0, 0, 7, 7);
        due("14 z does not count", p.distance(0, 3, 4, GREATEST), 25);
    }

    private static void promise15Pairs() {
        PointTrees p = space(2);
        p.thing(0, 2, 0, 2, 0, 0);
        p.thing(2, 4, 2, 4, 9, 9);
        p.thing(3, 5, 0, 1, 0, 0);
        p.thing(0, 5, 0, 5, 0, 0);
        due("15 ends meet, z does not count", p.pairs(), 4);
        p.build();
        due("15 built", p.pairs(), 4);
        p.thing(1, 1, 1, 1, 0, 0);
        due("15 with a LOOSE one", p.pairs(), 6);
        p.drop(3);
        due("15 without what went", p.pairs(), 2);
        p = space(1);
        for (int i = 0; i < 64; i++) {
            line(p, 0, 0);
        }
        due("15 all", p.pairs(), 64 * 63 / 2);
    }

    private static void dueDay(long time, long size, long want) {
        due("16 day(" + time + ", " + size + ")", new PointTrees().day(time, size), want);
    }

    private static void promise16Day() {
        dueDay(0, 86400, 0);
        dueDay(86399, 86400, 0);
        dueDay(86400, 86400, 1);
        dueDay(-1, 86400, -1);
        dueDay(-86400, 86400, -1);
        dueDay(-86401, 86400, -2);
        dueDay(7, 1, 7);
        dueDay(Long.MAX_VALUE, 1, Long.MAX_VALUE);
        dueDay(Long.MIN_VALUE, 1, Long.MIN_VALUE);
        dueDay(Long.MIN_VALUE, 2, Long.MIN_VALUE / 2);
        dueDay(Long.MIN_VALUE, Long.MAX_VALUE, -2);
        dueDay(Long.MAX_VALUE, Long.MAX_VALUE, 1);
        dueDay(5, -1, NOTHING);
        dueDay(Long.MIN_VALUE, -1, NOTHING);
        dueDay(5, Long.MIN_VALUE, NOTHING);
        for (long time = -1; time <= 1; time++) {
            due("16 size 0 throws", throwsOnZero(time) ? 1 : 0, 1);
        }
    }

    private static boolean throwsOnZero(long time) {
        try {
            new PointTrees().day(time, 0);
            return false;
        } catch (ArithmeticException e) {
            return true;
        }
    }

    public static void main(String[] args) {
        promise1New();
        promise2Dimensions();
        promise3Thing();
        promise4Drop();
        promise5Count();
        promise6End();
        promise7Build();
        promise7KeepsAsked();
        promise7Order();
        promise7Axis();
        promise7LikeOnes();
        promise8Block();
        promise9Bound();
        promise10Relations();
        promise10Axes();
        promise10AxesThatThereAreNot();
        promise10Full();
        promise10Refusals();
        promise10DropAndLoose();
        promise11Found();
        promise12Told();
        promise12AfterDrops();
        promise13Nearest();
        promise14Distance();
        promise15Pairs();
        promise16Day();
        System.out.println(wrong == 0 ? "all promises hold" : wrong + " answers are not as due");
        if (wrong != 0) {
            System.exit(1);
        }
    }
}
