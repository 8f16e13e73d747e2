/** Promise 4: link. */
public final class P04LinkTest {
    public static void main(String[] args) {
        RegionHeap heap = new RegionHeap();
        heap.make(0, 2, 0);
        heap.make(1, 1, 0);
        heap.large(2, 1, 9);
        Checks.due("link(0, 0, 1)", heap.link(0, 0, 1), true);
        Checks.due("link(0, 1, 2)", heap.link(0, 1, 2), true);
        Checks.due("link(2, 0, 2), to itself", heap.link(2, 0, 2), true);
        field(heap, 0, 0, 2);
        field(heap, 0, 1, 3);
        field(heap, 2, 0, 3);
        Checks.due("link(0, 0, -1)", heap.link(0, 0, -1), true);
        field(heap, 0, 0, 0);
        field(heap, 0, 1, 3);
        Checks.due("link(0, 1, 4), root 4 holds null", heap.link(0, 1, 4), true);
        field(heap, 0, 1, 0);
        theFieldIsTheObjectsNotTheRoots();
        refused();
        Checks.finish();
    }

    private static void field(RegionHeap heap, int root, int field, int serial) {
        Checks.due("load(5, " + root + ", " + field + ")", heap.load(5, root, field), true);
        Checks.due("serial of field " + field + " of root " + root, heap.serial(5), serial);
    }

    private static void theFieldIsTheObjectsNotTheRoots() {
        RegionHeap heap = new RegionHeap();
        heap.make(0, 1, 0);
        heap.make(1, 0, 0);
        heap.hold(2, 0);
        heap.link(2, 0, 1);
        heap.hold(1, -1);
        field(heap, 0, 0, 2);
        heap.collect(0);
        field(heap, 0, 0, 2);
        heap.full();
        field(heap, 0, 0, 2);
    }

    private static void refused() {
        RegionHeap heap = new RegionHeap();
        heap.make(0, 2, 0);
        heap.make(1, 0, 0);
        heap.link(0, 0, 1);
        heap.link(0, 1, 1);
        String before = Checks.state(heap);
        Checks.due("link(-1, 0, 0)", heap.link(-1, 0, 0), false);
        Checks.due("link(6, 0, 0)", heap.link(6, 0, 0), false);
        Checks.due("link(2, 0, 0), null", heap.link(2, 0, 0), false);
        Checks.due("link(0, -1, 0)", heap.link(0, -1, 0), false);
        Checks.due("link(0, 2, 0)", heap.link(0, 2, 0), false);
        Checks.due("link(1, 0, 0)", heap.link(1, 0, 0), false);
        Checks.due("link(0, 0, -2)", heap.link(0, 0, -2), false);
        Checks.due("link(0, 0, 6)", heap.link(0, 0, 6), false);
        Checks.due("state", Checks.state(heap), before);
        field(heap, 0, 0, 2);
        field(heap, 0, 1, 2);
    }
}
