/** Promise 17: live. */
public final class P17LiveTest {
    public static void main(String[] args) {
        RegionHeap heap = new RegionHeap();
        heap.mark();
        Checks.due("live of FREE, marked", heap.live(0), -1);
        heap.make(0, 0, 1);
        heap.make(1, 0, 3);
        Checks.due("live of EDEN, not marked", heap.live(0), -1);
        heap.mark();
        Checks.due("live of EDEN, marked", heap.live(0), 8);
        heap.hold(1, -1);
        Checks.due("live stays when less is reached", heap.live(0), 8);
        heap.link(0, 0, -1);
        heap.chosen(10);
        Checks.due("live stays", heap.live(0), 8);
        heap.mark();
        Checks.due("live marked again", heap.live(0), 3);
        heap.make(1, 0, 0);
        Checks.due("live after a make there", heap.live(0), -1);
        heap.mark();
        heap.collect(0);
        Checks.due("live of FREE again", heap.live(0), -1);
        Checks.due("live of where it was copied", heap.live(1), -1);
        heap.mark();
        Checks.due("live of SURVIVOR", heap.live(1), 5);
        heap.full();
        Checks.due("live after a full collection", heap.live(0), 5);
        Checks.due("live of what is FREE then", heap.live(1), -1);
        heap.make(2, 0, 0);
        Checks.due("live stays when the make was elsewhere", heap.live(0), 5);
        heap.collect(0);
        Checks.due("live stays when it is not collected", heap.live(0), 5);
        heap.large(3, 0, 20);
        heap.mark();
        Checks.due("live of LARGE", heap.live(heap.region(3)), -1);
        Checks.due("live of REST", heap.live(heap.region(3) + 1), -1);
        int[] noRegions = {Integer.MIN_VALUE, -1, 12, Integer.MAX_VALUE};
        for (int region : noRegions) {
            Checks.due("live(" + region + ")", heap.live(region), -1);
        }
        Checks.finish();
    }
}
