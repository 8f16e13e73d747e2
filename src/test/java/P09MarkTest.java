/** Promise 9: mark. */
public final class P09MarkTest {
    public static void main(String[] args) {
        RegionHeap heap = new RegionHeap();
        Checks.due("mark() of an empty heap", heap.mark(), 0);
        heap.make(0, 1, 0);
        heap.make(5, 0, 0);
        heap.full();
        heap.make(1, 1, 1);
        heap.make(2, 0, 3);
        heap.collect(0);
        heap.make(3, 0, 0);
        heap.make(4, 0, 2);
        heap.hold(5, -1);
        heap.hold(2, -1);
        heap.hold(3, -1);
        heap.large(3, 0, 33);
        Checks.due("kinds", Checks.kinds(heap), "312455000000");
        Checks.due("mark()", heap.mark(), 3 + 4 + 4 + 33);
        Checks.due("live of OLD", heap.live(0), 3);
        Checks.due("live of EDEN", heap.live(1), 4);
        Checks.due("live of SURVIVOR", heap.live(2), 4);
        Checks.due("live of LARGE", heap.live(3), -1);
        Checks.due("live of REST", heap.live(4), -1);
        Checks.due("live of FREE", heap.live(6), -1);
        heap.hold(0, -1);
        heap.hold(3, -1);
        Checks.due("live stays until marked again", heap.live(0), 3);
        Checks.due("mark() again", heap.mark(), 8);
        Checks.due("live(0) then", heap.live(0), 0);
        Checks.due("used(0) then", heap.used(0), 5);
        marksThroughFields();
        countsEachOnce();
        Checks.finish();
    }

    private static void marksThroughFields() {
        RegionHeap heap = new RegionHeap();
        heap.make(0, 1, 0);
        for (int i = 0; i < 40; i++) {
            heap.make(1, 1, 0);
            heap.link(1, 0, 0);
            heap.hold(0, 1);
        }
        heap.hold(1, -1);
        Checks.due("mark() of a chain", heap.mark(), 41 * 3);
        heap.hold(0, -1);
        Checks.due("mark() of a chain not held", heap.mark(), 0);
    }

    private static void countsEachOnce() {
        RegionHeap heap = new RegionHeap();
        heap.make(0, 2, 0);
        heap.make(1, 2, 0);
        heap.link(0, 0, 1);
        heap.link(0, 1, 1);
        heap.link(1, 0, 0);
        heap.link(1, 1, 1);
        heap.hold(2, 0);
        String places = Checks.place(heap, 0) + Checks.place(heap, 1);
        Checks.due("mark() of a cycle", heap.mark(), 8);
        Checks.due("live(0)", heap.live(0), 8);
        Checks.due("nothing is moved", Checks.place(heap, 0) + Checks.place(heap, 1), places);
        Checks.due("count(0)", heap.count(0), 0);
        Checks.due("count(1)", heap.count(1), 0);
    }
}
