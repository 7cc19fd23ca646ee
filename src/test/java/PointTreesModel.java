import java.util.ArrayList;
import java.util.Arrays;
import java.util.Comparator;
import java.util.List;
import java.util.Random;

/** Long runs of made-up calls, always the same ones, each answer held against a plain model. */
public final class PointTreesModel {
    private static final long NOTHING = Long.MIN_VALUE;
    private static final int RUNS = 3000;
    // What an object answers behind its 512th call is free, and one step of a run makes up to 70 calls.
    private static final int MOST_CALLS = 512;
    private static final int MOST_CALLS_OF_A_STEP = 70;
    private static final int[] ODD_NUMBERS = {Integer.MIN_VALUE, Integer.MAX_VALUE, -1000001, 1000001, -1000000,
        1000000, -1, 64, 63, 31, 30, 3, 4};

    /** A THING: its ends in the order x0, x1, y0, y1, z0, z1. */
    private static final class Thing {
        final int number;
        final int[] ends;
        boolean there = true;
        boolean loose = true;

        Thing(int number, int[] ends) {
            this.number = number;
            this.ends = ends;
        }

        int sum(int axis) {
            return ends[2 * axis] + ends[2 * axis + 1];
        }
    }

    /** A BLOCK that holds its THINGS and its parts itself. */
    private static final class Block {
        List<Thing> things;
        Block first;
        Block other;
        int depth;
        int number;
        int[] ends;
    }

    /** The document's words, as they stand, by lists and recursion. */
    private static final class Model {
        int dims = 1;
        List<Thing> things = new ArrayList<>();
        List<Block> blocks = new ArrayList<>();
        List<Integer> found = new ArrayList<>();
        int[] told = new int[3];

        static boolean apart(int dims, int[] a, int[] b) {
            boolean apart = false;
            for (int i = 0; i < dims; i++) {
                apart |= a[2 * i + 1] < b[2 * i] || b[2 * i + 1] < a[2 * i];
            }
            return apart;
        }

        static boolean inside(int dims, int[] a, int[] b) {
            boolean inside = true;
            for (int i = 0; i < dims; i++) {
                inside &= b[2 * i] <= a[2 * i] && a[2 * i + 1] <= b[2 * i + 1];
            }
            return inside;
        }

        boolean refuses(int[] box) {
            for (int i = 0; i < dims; i++) {
                if (box[2 * i] > box[2 * i + 1] || box[2 * i] < -1000000 || box[2 * i + 1] > 1000000) {
                    return true;
                }
            }
            return false;
        }

        boolean refusesPlace(int[] place) {
            for (int i = 0; i < dims; i++) {
                if (place[i] < -1000000 || place[i] > 1000000) {
                    return true;
                }
            }
            return false;
        }

        List<Thing> present() {
            List<Thing> all = new ArrayList<>();
            for (Thing t : things) {
                if (t.there) {
                    all.add(t);
                }
            }
            return all;
        }

        boolean hasThing(int t) {
            return t >= 0 && t < things.size() && things.get(t).there;
        }

        int dimensions(int d) {
            if (d < 1 || d > 3) {
                return -2;
            }
            int were = dims;
            dims = d;
            things.clear();
            blocks.clear();
            found.clear();
            told = new int[3];
            return were;
        }

        int thing(int[] ends) {
            if (refuses(ends)) {
                return -2;
            }
            if (things.size() == 64) {
                return -4;
            }
            things.add(new Thing(things.size(), ends));
            return things.size() - 1;
        }

        int drop(int t) {
            if (!hasThing(t)) {
                return -1;
            }
            things.get(t).there = false;
            return present().size();
        }

        long end(int t, int axis, int side) {
            boolean no = !hasThing(t) || axis < 0 || axis >= dims || side < 0 || side > 1;
            return no ? NOTHING : things.get(t).ends[2 * axis + side];
        }

        int build() {
            blocks.clear();
            for (Thing t : things) {
                t.loose = false;
            }
            if (!present().isEmpty()) {
                make(present(), 0);
            }
            return blocks.size();
        }

        Block make(List<Thing> of, int depth) {
            Block b = new Block();
            b.things = new ArrayList<>(of);
            b.depth = depth;
            b.number = blocks.size();
            b.ends = new int[6];
            for (int i = 0; i < dims; i++) {
                int axis = i;
                b.ends[2 * i] = of.stream().mapToInt(t -> t.ends[2 * axis]).min().getAsInt();
                b.ends[2 * i + 1] = of.stream().mapToInt(t -> t.ends[2 * axis + 1]).max().getAsInt();
            }
            blocks.add(b);
            if (of.size() > 4) {
                int axis = farthestAxis(of);
                List<Thing> sorted = new ArrayList<>(of);
                sorted.sort(Comparator.comparingInt((Thing t) -> t.sum(axis)).thenComparingInt(t -> t.number));
                int half = (of.size() + 1) / 2;
                b.first = make(sorted.subList(0, half), depth + 1);
                b.other = make(sorted.subList(half, of.size()), depth + 1);
            }
            return b;
        }

        int farthestAxis(List<Thing> of) {
            int best = 0;
            int bestWidth = -1;
            for (int i = 0; i < dims; i++) {
                int axis = i;
                int width = of.stream().mapToInt(t -> t.sum(axis)).max().getAsInt()
                        - of.stream().mapToInt(t -> t.sum(axis)).min().getAsInt();
                if (width > bestWidth) {
                    best = i;
                    bestWidth = width;
                }
            }
            return best;
        }

        int block(int b, int what) {
            if (b < 0 || b >= blocks.size()) {
                return -1;
            }
            if (what < 0 || what > 3) {
                return -2;
            }
            Block block = blocks.get(b);
            int other = block.other == null ? 0 : block.other.number;
            return new int[] {block.other == null ? 0 : 1, block.things.size(), other, block.depth}[what];
        }

        long bound(int b, int axis, int side) {
            boolean no = b < 0 || b >= blocks.size() || axis < 0 || axis >= dims || side < 0 || side > 1;
            return no ? NOTHING : blocks.get(b).ends[2 * axis + side];
        }

        boolean so(int relation, int[] ends, int[] box) {
            return relation == 0 ? !apart(dims, ends, box)
                    : relation == 1 ? inside(dims, ends, box)
                    : relation == 2 ? inside(dims, box, ends)
                    : apart(dims, ends, box);
        }

        int range(int relation, int[] box) {
            if (relation < 0 || relation > 3 || refuses(box)) {
                return -2;
            }
            found.clear();
            told = new int[3];
            if (!blocks.isEmpty()) {
                look(blocks.get(0), relation, box);
            }
            for (Thing t : things) {
                if (t.there && t.loose && so(relation, t.ends, box)) {
                    found.add(t.number);
                }
            }
            found.sort(null);
            return found.size();
        }

        void look(Block b, int relation, int[] box) {
            boolean apart = apart(dims, b.ends, box);
            boolean in = inside(dims, b.ends, box);
            boolean settled = relation == 2 ? !inside(dims, box, b.ends) : apart || in;
            boolean all = relation == 2 ? false : relation == 3 ? apart : in && !apart;
            if (settled) {
                told[1]++;
            } else {
                told[0]++;
                if (b.first != null) {
                    look(b.first, relation, box);
                    look(b.other, relation, box);
                    return;
                }
            }
            for (Thing t : b.things) {
                if (t.there && (settled ? all : so(relation, t.ends, box))) {
                    found.add(t.number);
                    told[2] += settled ? 1 : 0;
                }
            }
        }

        int found(int k) {
            return k < 0 || k >= found.size() ? -1 : found.get(k);
        }

        int told(int what) {
            return what < 0 || what > 2 ? -2 : told[what];
        }

        long square(Thing t, int[] place) {
            long square = 0;
            for (int i = 0; i < dims; i++) {
                int next = Math.max(t.ends[2 * i], Math.min(t.ends[2 * i + 1], place[i]));
                square += ((long) next - place[i]) * ((long) next - place[i]);
            }
            return square;
        }

        int nearest(int[] place, int k) {
            List<Thing> all = present();
            if (k < 0 || k >= all.size()) {
                return -1;
            }
            if (refusesPlace(place)) {
                return -2;
            }
            all.sort(Comparator.comparingLong((Thing t) -> square(t, place)).thenComparingInt(t -> t.number));
            return all.get(k).number;
        }

        long distance(int t, int[] place) {
            return !hasThing(t) || refusesPlace(place) ? NOTHING : square(things.get(t), place);
        }

        int pairs() {
            int n = 0;
            for (Thing t : present()) {
                for (Thing u : present()) {
                    n += t.number < u.number && !apart(dims, t.ends, u.ends) ? 1 : 0;
                }
            }
            return n;
        }
    }

    private final Random random;
    private final int spread;
    private final int run;
    private final Model model = new Model();
    private final PointTrees trees = new PointTrees();
    private int calls = 0;
    private static int wrong = 0;

    private PointTreesModel(int run) {
        this.run = run;
        random = new Random(run);
        int[] spreads = {3, 10, 60, 1000, 1000000};
        spread = spreads[run % spreads.length];
    }

    private int place() {
        return random.nextInt(60) == 0 ? odd() : random.nextInt(2 * spread + 1) - spread;
    }

    private int odd() {
        return ODD_NUMBERS[random.nextInt(ODD_NUMBERS.length)];
    }

    private int upTo(int most) {
        return random.nextInt(25) == 0 ? odd() : random.nextInt(most + 1);
    }

    private int[] box() {
        int[] ends = new int[6];
        for (int i = 0; i < 3; i++) {
            int a = place();
            int b = random.nextInt(3) == 0 ? a : random.nextBoolean() ? place() : a + random.nextInt(1 + spread / 2);
            boolean turned = i >= model.dims || random.nextInt(60) == 0;
            ends[2 * i] = turned ? Math.max(a, b) : Math.min(a, b);
            ends[2 * i + 1] = turned ? Math.min(a, b) : Math.max(a, b);
        }
        return ends;
    }

    private void due(String call, long got, long want) {
        calls++;
        if (got != want) {
            wrong++;
            if (wrong <= 20) {
                System.out.println("run " + run + ": " + call + " answered " + got + ", due is " + want);
            }
        }
    }

    private void thing() {
        int[] e = box();
        due("thing" + Arrays.toString(e), trees.thing(e[0], e[1], e[2], e[3], e[4], e[5]), model.thing(e));
    }

    private void range() {
        int[] e = box();
        int relation = upTo(3);
        due("range " + relation + Arrays.toString(e), trees.range(relation, e[0], e[1], e[2], e[3], e[4], e[5]),
                model.range(relation, e));
        for (int what = 0; what < 3; what++) {
            due("told " + what, trees.told(what), model.told(what));
        }
        boolean each = random.nextInt(8) == 0;
        for (int k = each ? -1 : model.found.size() - 1; k <= model.found.size(); k++) {
            due("found " + k, trees.found(k), model.found(k));
        }
    }

    private void treeIsAsDue() {
        due("build", trees.build(), model.build());
        blockIsAsDue(model.blocks.size());
        if (!model.blocks.isEmpty()) {
            blockIsAsDue(model.blocks.size() - 1);
            blockIsAsDue(random.nextInt(model.blocks.size()));
        }
    }

    private void blockIsAsDue(int b) {
        for (int i = -1; i <= 6; i++) {
            due("block " + b + " " + i, trees.block(b, i), model.block(b, i));
            due("bound " + b + " " + i, trees.bound(b, i / 2, i & 1), model.bound(b, i / 2, i & 1));
        }
    }

    private void placeAsked() {
        int[] p = {place(), place(), place()};
        int k = upTo(model.things.size());
        due("nearest " + Arrays.toString(p) + k, trees.nearest(p[0], p[1], p[2], k), model.nearest(p, k));
        due("distance " + Arrays.toString(p) + k, trees.distance(k, p[0], p[1], p[2]), model.distance(k, p));
    }

    private void numbersAsked() {
        int a = upTo(model.things.size());
        int b = upTo(3);
        int c = upTo(2);
        due("end " + a + " " + b + " " + c, trees.end(a, b, c), model.end(a, b, c));
        due("block " + a + " " + b, trees.block(a, b), model.block(a, b));
        due("bound " + a + " " + b + " " + c, trees.bound(a, b, c), model.bound(a, b, c));
        due("found " + a, trees.found(a), model.found(a));
        due("told " + b, trees.told(b), model.told(b));
    }

    private void step() {
        int pick = random.nextInt(100);
        if (pick < 25) {
            thing();
        } else if (pick < 33) {
            int t = upTo(model.things.size());
            due("drop " + t, trees.drop(t), model.drop(t));
        } else if (pick < 40) {
            treeIsAsDue();
        } else if (pick < 70) {
            range();
        } else if (pick < 82) {
            placeAsked();
        } else if (pick < 92) {
            numbersAsked();
        } else if (pick < 95) {
            due("pairs", trees.pairs(), model.pairs());
        } else if (pick < 99) {
            due("count", trees.count(), model.present().size());
        } else {
            int d = random.nextInt(3) == 0 ? upTo(3) : 9;
            due("dimensions " + d, trees.dimensions(d), model.dimensions(d));
        }
    }

    public static void main(String[] args) {
        for (int run = 0; run < RUNS; run++) {
            PointTreesModel test = new PointTreesModel(run);
            int d = 1 + run % 3;
            test.due("dimensions " + d, test.trees.dimensions(d), test.model.dimensions(d));
            for (int n = test.random.nextInt(66); n > 0; n--) {
                test.thing();
            }
            while (test.calls + MOST_CALLS_OF_A_STEP <= MOST_CALLS) {
                test.step();
            }
        }
        System.out.println(wrong == 0 ? "all answers are as the model's" : wrong + " answers are not as the model's");
        if (wrong != 0) {
            System.exit(1);
        }
    }
}
