import java.util.ArrayList;
import java.util.List;
import java.util.function.Supplier;
import java.util.function.ToIntFunction;

/**
 * "A call that is refused (-1 or false) changes nothing.": every such call in several states of the heap. What
 * the face can't be asked (the current region, the fields) is seen by going on beside a heap that had no such call.
 */
public final class TermsRefusedTest {
    private record Refused(String name, int due, ToIntFunction<RegionHeap> call) {
    }

    private static final int[] NO_ROOTS = {Integer.MIN_VALUE, -1, 6, Integer.MAX_VALUE};
    private static final int[] NO_REGIONS = {Integer.MIN_VALUE, -1, 12, Integer.MAX_VALUE};
    private static final int[] NO_COUNTS = {Integer.MIN_VALUE, -1, 4, Integer.MAX_VALUE};
    private static final int[] NOT_ZERO_TO_THREE = {Integer.MIN_VALUE, -1, 4, Integer.MAX_VALUE};
    private static final int[] NO_LARGE_SIZES = {Integer.MIN_VALUE, -1, 0, 8, 41, Integer.MAX_VALUE};
    /** No object has a field 3, and -1 is null for a root but is no field. */
    private static final int[] NO_FIELDS = {Integer.MIN_VALUE, -1, 3, Integer.MAX_VALUE};
    private static final int[] NO_ROOTS_NOR_NULL = {Integer.MIN_VALUE, -2, 6, Integer.MAX_VALUE};
    private static final int[] NO_BUDGETS = {Integer.MIN_VALUE, -2, -1};

    /** In every state root 0 holds an object with 3 fields, root 1 one with none, and root 5 null. */
    private static final int HOLDS_NULL = 5;
    private static final int HAS_NO_FIELD = 1;

    public static void main(String[] args) {
        Checks.sentence("A call that is refused (-1 or false) changes nothing.");
        List<Refused> all = new ArrayList<>();
        addMaking(all);
        addRootsAndFields(all);
        addBudgets(all);
        addQuestions(all);
        for (Refused one : all) {
            changesNothing("an empty heap", RegionHeap::new, one);
            changesNothing("young ones", TermsRefusedTest::young, one);
            changesNothing("all kinds", TermsRefusedTest::allKinds, one);
            changesNothing("no place left", TermsRefusedTest::noPlaceLeft, one);
        }
        Checks.finish();
    }

    private static void changesNothing(String state, Supplier<RegionHeap> made, Refused one) {
        RegionHeap heap = made.get();
        RegionHeap twin = made.get();
        String name = one.name() + " with " + state;
        Checks.due(name, one.call().applyAsInt(heap), one.due());
        Checks.due("the state after " + name, Checks.state(heap), Checks.state(twin));
        Checks.due("what comes after " + name, goneOn(heap), goneOn(twin));
    }

    private static String goneOn(RegionHeap heap) {
        StringBuilder text = new StringBuilder();
        for (int root = 0; root < 5; root++) {
            for (int field = 0; field < 3; field++) {
                text.append(heap.load(5, root, field)).append(heap.serial(5)).append(' ');
            }
        }
        text.append(heap.make(5, 0, 0)).append(" at ").append(Checks.place(heap, 5)).append(' ');
        text.append(heap.collect(9)).append(' ').append(heap.make(4, 3, 3)).append(' ');
        return text.append(heap.large(3, 1, 17)).append('\n').append(Checks.state(heap)).toString();
    }

    private static RegionHeap young() {
        RegionHeap heap = new RegionHeap();
        heap.make(0, 3, 0);
        heap.make(1, 0, 0);
        heap.make(2, 1, 0);
        heap.link(0, 0, 1);
        heap.link(0, 2, 0);
        heap.link(2, 0, 0);
        heap.mark();
        return heap;
    }

    private static RegionHeap allKinds() {
        RegionHeap heap = new RegionHeap();
        heap.make(0, 3, 0);
        heap.make(1, 0, 0);
        heap.make(5, 3, 1);
        heap.link(0, 1, 1);
        heap.full();
        heap.make(2, 2, 0);
        heap.link(2, 0, 0);
        heap.collect(0);
        heap.make(3, 1, 0);
        heap.link(3, 0, 2);
        heap.large(4, 1, 33);
        heap.link(4, 0, 3);
        heap.hold(5, -1);
        heap.mark();
        return heap;
    }

    private static RegionHeap noPlaceLeft() {
        RegionHeap heap = Heaps.walled(1);
        heap.hold(2, 0);
        heap.make(0, 3, 3);
        heap.make(1, 0, 3);
        heap.make(3, 0, 1);
        heap.link(0, 1, 2);
        heap.link(0, 2, 3);
        return heap;
    }

    private static void addMaking(List<Refused> all) {
        for (int root : NO_ROOTS) {
            all.add(new Refused("make(" + root + ", 0, 0)", -1, heap -> heap.make(root, 0, 0)));
            all.add(new Refused("large(" + root + ", 0, 9)", -1, heap -> heap.large(root, 0, 9)));
        }
        for (int x : NOT_ZERO_TO_THREE) {
            all.add(new Refused("make(0, " + x + ", 0)", -1, heap -> heap.make(0, x, 0)));
            all.add(new Refused("make(0, 0, " + x + ")", -1, heap -> heap.make(0, 0, x)));
            all.add(new Refused("make(0, " + x + ", " + x + ")", -1, heap -> heap.make(0, x, x)));
            all.add(new Refused("large(0, " + x + ", 9)", -1, heap -> heap.large(0, x, 9)));
        }
        for (int size : NO_LARGE_SIZES) {
            all.add(new Refused("large(0, 0, " + size + ")", -1, heap -> heap.large(0, 0, size)));
        }
        all.add(new Refused("make(0, 4, -1), 5 words all the same", -1, heap -> heap.make(0, 4, -1)));
        all.add(new Refused("make(0, -1, 3), 4 words all the same", -1, heap -> heap.make(0, -1, 3)));
    }

    private static void addRootsAndFields(List<Refused> all) {
        for (int root : NO_ROOTS) {
            all.add(new Refused("link(" + root + ", 0, 0)", 0, heap -> asInt(heap.link(root, 0, 0))));
            all.add(new Refused("link(" + root + ", 0, -1)", 0, heap -> asInt(heap.link(root, 0, -1))));
            all.add(new Refused("load(3, " + root + ", 0)", 0, heap -> asInt(heap.load(3, root, 0))));
            all.add(new Refused("load(" + root + ", 0, 0)", 0, heap -> asInt(heap.load(root, 0, 0))));
            all.add(new Refused("hold(" + root + ", 0)", 0, heap -> asInt(heap.hold(root, 0))));
            all.add(new Refused("hold(" + root + ", -1)", 0, heap -> asInt(heap.hold(root, -1))));
        }
        for (int field : NO_FIELDS) {
            all.add(new Refused("link(0, " + field + ", 1)", 0, heap -> asInt(heap.link(0, field, 1))));
            all.add(new Refused("link(0, " + field + ", -1)", 0, heap -> asInt(heap.link(0, field, -1))));
            all.add(new Refused("load(3, 0, " + field + ")", 0, heap -> asInt(heap.load(3, 0, field))));
        }
        for (int to : NO_ROOTS_NOR_NULL) {
            all.add(new Refused("link(0, 0, " + to + ")", 0, heap -> asInt(heap.link(0, 0, to))));
            all.add(new Refused("hold(0, " + to + ")", 0, heap -> asInt(heap.hold(0, to))));
        }
        all.add(new Refused("link of a root that holds null", 0, heap -> asInt(heap.link(HOLDS_NULL, 0, 0))));
        all.add(new Refused("load of a root that holds null", 0, heap -> asInt(heap.load(0, HOLDS_NULL, 0))));
        all.add(new Refused("link of an object without fields", 0, heap -> asInt(heap.link(HAS_NO_FIELD, 0, 0))));
        all.add(new Refused("load of an object without fields", 0, heap -> asInt(heap.load(0, HAS_NO_FIELD, 0))));
    }

    private static int asInt(boolean answer) {
        return answer ? 1 : 0;
    }

    private static void addBudgets(List<Refused> all) {
        for (int budget : NO_BUDGETS) {
            all.add(new Refused("collect(" + budget + ")", -1, heap -> heap.collect(budget)));
            all.add(new Refused("chosen(" + budget + ")", 0, heap -> heap.chosen(budget)));
        }
    }

    private static void addQuestions(List<Refused> all) {
        for (int root : NO_ROOTS) {
            all.add(new Refused("serial(" + root + ")", -1, heap -> heap.serial(root)));
            all.add(new Refused("region(" + root + ")", -1, heap -> heap.region(root)));
            all.add(new Refused("offset(" + root + ")", -1, heap -> heap.offset(root)));
            all.add(new Refused("size(" + root + ")", -1, heap -> heap.size(root)));
        }
        for (int region : NO_REGIONS) {
            all.add(new Refused("kind(" + region + ")", -1, heap -> heap.kind(region)));
            all.add(new Refused("used(" + region + ")", -1, heap -> heap.used(region)));
            all.add(new Refused("live(" + region + ")", -1, heap -> heap.live(region)));
            all.add(new Refused("incoming(" + region + ")", -1, heap -> heap.incoming(region)));
        }
        for (int which : NO_COUNTS) {
            all.add(new Refused("count(" + which + ")", -1, heap -> heap.count(which)));
        }
        all.add(new Refused("serial of a root that holds null", 0, heap -> heap.serial(HOLDS_NULL)));
        all.add(new Refused("region of a root that holds null", -1, heap -> heap.region(HOLDS_NULL)));
        all.add(new Refused("offset of a root that holds null", -1, heap -> heap.offset(HOLDS_NULL)));
        all.add(new Refused("size of a root that holds null", -1, heap -> heap.size(HOLDS_NULL)));
    }
}
