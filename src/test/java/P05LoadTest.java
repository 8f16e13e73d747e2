/** Promise 5: load. */
public final class P05LoadTest {
    public static void main(String[] args) {
        RegionHeap heap = new RegionHeap();
        heap.make(0, 2, 0);
        heap.make(1, 1, 0);
        heap.link(0, 1, 1);
        heap.link(1, 0, 0);
        Checks.due("load(2, 0, 1)", heap.load(2, 0, 1), true);
        Checks.due("serial(2)", heap.serial(2), 2);
        Checks.due("load(2, 0, 0), a field that is null", heap.load(2, 0, 0), true);
        Checks.due("serial(2) then", heap.serial(2), 0);
        Checks.due("load(0, 0, 1), to the root itself", heap.load(0, 0, 1), true);
        Checks.due("serial(0)", heap.serial(0), 2);
        Checks.due("load(5, 0, 0)", heap.load(5, 0, 0), true);
        Checks.due("serial(5)", heap.serial(5), 1);

        String before = Checks.state(heap);
        Checks.due("load(-1, 0, 0)", heap.load(-1, 0, 0), false);
        Checks.due("load(6, 0, 0)", heap.load(6, 0, 0), false);
        Checks.due("load(3, -1, 0)", heap.load(3, -1, 0), false);
        Checks.due("load(3, 6, 0)", heap.load(3, 6, 0), false);
        Checks.due("load(3, 4, 0), null", heap.load(3, 4, 0), false);
        Checks.due("load(5, 0, -1)", heap.load(5, 0, -1), false);
        Checks.due("load(5, 0, 1)", heap.load(5, 0, 1), false);
        Checks.due("state", Checks.state(heap), before);
        Checks.finish();
    }
}
