/** Promise 18: incoming. */
public final class P18IncomingTest {
    public static void main(String[] args) {
        RegionHeap heap = new RegionHeap();
        heap.make(0, 3, 3);
        heap.make(1, 3, 3);
        heap.make(2, 3, 3);
        heap.large(3, 2, 40);
        heap.link(0, 0, 0);
        heap.link(0, 1, 1);
        Checks.due("fields of the same region", heap.incoming(0), 0);
        heap.link(2, 0, 0);
        heap.link(2, 1, 1);
        heap.link(2, 2, 1);
        Checks.due("fields of another region, each", heap.incoming(0), 3);
        Checks.due("incoming(1)", heap.incoming(1), 0);
        heap.link(3, 0, 0);
        Checks.due("a large object's field too", heap.incoming(0), 4);
        heap.hold(2, -1);
        Checks.due("reached or not", heap.incoming(0), 4);
        heap.link(0, 2, 3);
        heap.link(1, 2, 3);
        heap.link(3, 1, 3);
        Checks.due("of a large object, but for its own fields", heap.incoming(2), 2);
        Checks.due("a large object is in its LARGE region, not in REST", heap.incoming(3), 0);
        Checks.due("of the last REST region", heap.incoming(4), 0);
        Checks.due("of a FREE region", heap.incoming(5), 0);
        heap.link(3, 0, -1);
        Checks.due("a field that is null now", heap.incoming(0), 3);
        heap.collect(0);
        Checks.due("the one not reached is gone", heap.incoming(5), 0);
        Checks.due("what was collected is FREE", heap.incoming(0), 0);
        Checks.due("of the large object still", heap.incoming(2), 2);
        int[] noRegions = {Integer.MIN_VALUE, -1, 12, Integer.MAX_VALUE};
        for (int region : noRegions) {
            Checks.due("incoming(" + region + ")", heap.incoming(region), -1);
        }
        Checks.finish();
    }
}
