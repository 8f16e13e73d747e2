import java.util.Map;
import java.util.Random;
import java.util.TreeMap;

/** Random runs of at most 512 calls (fixed seeds): the class and the model answer alike. */
public final class ModelRunsTest {
    private static final int RUNS = 3000;
    private static final int CALLS = 512;
    /** What the last calls of a run ask of roots, regions and counts. */
    private static final int CLOSING_CALLS = 6 * 4 + 12 * 4 + 4;
    private static final int MOST_CALLS_OF_A_STEP = 4;

    private final RegionHeap heap = new RegionHeap();
    private final HeapModel model = new HeapModel();
    private final Random random;
    private final int seed;
    /** Runs differ in how full they keep the heap and how much they make large. */
    private final int dropping;
    private final int largeness;
    private final int chaining;
    private int calls = 0;

    private ModelRunsTest(int seed) {
        this.seed = seed;
        this.random = new Random(seed);
        this.dropping = 1 + random.nextInt(12);
        this.largeness = random.nextInt(10);
        this.chaining = random.nextInt(3) == 0 ? random.nextInt(80) : 0;
    }

    public static void main(String[] args) {
        Map<String, Integer> cameTo = new TreeMap<>();
        for (int seed = 0; seed < RUNS && !Checks.anyWrong(); seed++) {
            ModelRunsTest run = new ModelRunsTest(seed);
            run.go();
            run.model.cameTo.forEach((place, times) -> cameTo.merge(place, times, Integer::sum));
        }
        String[] places = {
            "make collects", "make's collection is full instead", "make collects fully", "make in OLD", "make -2",
            "large collects fully", "large -2", "collect -2", "collect copies", "collects OLD regions",
            "chosen passes one over", "several chosen"};
        for (String place : places) {
            Checks.due("runs that came to '" + place + "' at least 20 times", cameTo.getOrDefault(place, 0) >= 20, true);
        }
        Checks.finish();
    }

    private void go() {
        int length = random.nextInt(CALLS - CLOSING_CALLS - MOST_CALLS_OF_A_STEP);
        while (calls < length && !Checks.anyWrong()) {
            if (random.nextInt(100) < chaining) {
                chain();
            } else {
                step();
            }
        }
        for (int root = 0; root < 6 && !Checks.anyWrong(); root++) {
            askRoot(root);
        }
        for (int region = 0; region < 12 && !Checks.anyWrong(); region++) {
            askRegion(region);
        }
        for (int which = 0; which < 4 && !Checks.anyWrong(); which++) {
            due("count(" + which + ")", heap.count(which), model.count(which));
        }
    }

    private void due(String call, long got, long want) {
        calls++;
        Checks.due("seed " + seed + ", call " + calls + ": " + call, got, want);
    }

    private void due(String call, boolean got, boolean want) {
        calls++;
        Checks.due("seed " + seed + ", call " + calls + ": " + call, got, want);
    }

    /** Now and then one step outside the range. */
    private int about(int low, int high) {
        return random.nextInt(40) == 0 ? low - 1 + random.nextInt(2) * (high - low + 2)
            : low + random.nextInt(high - low + 1);
    }

    /** One more object before a chain that root 0 holds, so that the heap fills up. */
    private void chain() {
        int fields = 1 + random.nextInt(3);
        int extra = random.nextInt(4);
        due("make(1, " + fields + ", " + extra + ")", heap.make(1, fields, extra), model.make(1, fields, extra));
        due("link(1, 0, 0)", heap.link(1, 0, 0), model.link(1, 0, 0));
        due("hold(0, 1)", heap.hold(0, 1), model.hold(0, 1));
    }

    private void step() {
        int kind = random.nextInt(100);
        if (kind < 40) {
            makeSmall();
        } else if (kind < 40 + largeness) {
            int root = about(0, 5);
            int fields = about(0, 3);
            int size = about(9, 40);
            due("large(" + root + ", " + fields + ", " + size + ")",
                heap.large(root, fields, size), model.large(root, fields, size));
        } else if (kind < 78) {
            moveReferences();
        } else if (kind < 90) {
            collectSomehow();
        } else {
            askSomething();
        }
    }

    private void makeSmall() {
        int root = about(0, 5);
        int fields = about(0, 3);
        int extra = about(0, 3);
        due("make(" + root + ", " + fields + ", " + extra + ")",
            heap.make(root, fields, extra), model.make(root, fields, extra));
    }

    private void moveReferences() {
        int kind = random.nextInt(40);
        int root = about(0, 5);
        int field = about(0, 2);
        int to = about(0, 5);
        if (kind < 24) {
            due("link(" + root + ", " + field + ", " + to + ")",
                heap.link(root, field, to), model.link(root, field, to));
        } else if (kind < 30) {
            due("load(" + to + ", " + root + ", " + field + ")",
                heap.load(to, root, field), model.load(to, root, field));
        } else {
            int from = random.nextInt(24) < dropping ? -1 : root;
            due("hold(" + to + ", " + from + ")", heap.hold(to, from), model.hold(to, from));
        }
    }

    private void collectSomehow() {
        int kind = random.nextInt(24);
        int budget = random.nextInt(10) == 0 ? Integer.MAX_VALUE : random.nextInt(50) - 1;
        if (kind < 9) {
            due("collect(" + budget + ")", heap.collect(budget), model.collect(budget));
        } else if (kind < 11) {
            due("full()", heap.full(), model.full());
        } else if (kind < 17) {
            due("mark()", heap.mark(), model.mark());
        } else {
            due("chosen(" + budget + ")", heap.chosen(budget), model.chosen(budget));
        }
    }

    private void askSomething() {
        if (random.nextBoolean()) {
            askRoot(about(0, 5));
        } else {
            askRegion(about(0, 11));
        }
    }

    private void askRoot(int root) {
        due("serial(" + root + ")", heap.serial(root), model.serial(root));
        due("region(" + root + ")", heap.region(root), model.region(root));
        due("offset(" + root + ")", heap.offset(root), model.offset(root));
        due("size(" + root + ")", heap.size(root), model.size(root));
    }

    private void askRegion(int region) {
        due("kind(" + region + ")", heap.kind(region), model.kind(region));
        due("used(" + region + ")", heap.used(region), model.used(region));
        due("live(" + region + ")", heap.live(region), model.live(region));
        due("incoming(" + region + ")", heap.incoming(region), model.incoming(region));
    }
}
