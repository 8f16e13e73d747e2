/** Promise 3: large. */
public final class P03LargeTest {
    public static void main(String[] args) {
        size(9, 9, 0, 0);
        size(16, 16, 0, 0);
        size(17, 16, 1, 0);
        size(32, 16, 16, 0);
        size(33, 16, 16, 1);
        size(40, 16, 16, 8);
        leastRegionsSideBySide();
        fullCollectionMakesRoom();
        nothingMade();
        makesGoOnInTheCurrentRegion();
        Checks.finish();
    }

    private static void size(int words, int first, int second, int third) {
        RegionHeap heap = new RegionHeap();
        String call = "large(2, 3, " + words + ")";
        Checks.due(call, heap.large(2, 3, words), 1);
        Checks.due("size after " + call, heap.size(2), words);
        Checks.due("place after " + call, Checks.place(heap, 2), "0+0");
        int[] used = {first, second, third, 0};
        for (int region = 0; region < 4; region++) {
            int kind = used[region] == 0 ? 0 : region == 0 ? 4 : 5;
            Checks.due("kind(" + region + ") after " + call, heap.kind(region), kind);
            Checks.due("used(" + region + ") after " + call, heap.used(region), used[region]);
        }
        Checks.due("link of field 2", heap.link(2, 2, 2), true);
        Checks.due("link of field 3", heap.link(2, 3, 2), false);
        Checks.due("serial of a field that is null", heap.load(3, 2, 0) ? heap.serial(3) : -9, 0);
    }

    private static void leastRegionsSideBySide() {
        RegionHeap heap = new RegionHeap();
        heap.large(0, 0, 16);
        heap.large(1, 0, 40);
        heap.large(2, 0, 16);
        heap.large(3, 0, 17);
        heap.hold(0, -1);
        heap.hold(2, -1);
        heap.full();
        Checks.due("kinds with gaps", Checks.kinds(heap), "045504500000");
        Checks.due("two regions", heap.large(0, 0, 20), 5);
        Checks.due("behind the gaps of one", heap.region(0), 7);
        Checks.due("one region", heap.large(2, 0, 10), 6);
        Checks.due("in the first gap", heap.region(2), 0);
        Checks.due("one region more", heap.large(4, 0, 10), 7);
        Checks.due("in the second gap", heap.region(4), 4);
        Checks.due("kinds", Checks.kinds(heap), "445544545000");
        Checks.due("count(1): one asked for", heap.count(1), 1);
    }

    private static void fullCollectionMakesRoom() {
        RegionHeap heap = new RegionHeap();
        for (int i = 1; i <= 4; i++) {
            Checks.due("large", heap.large(0, 0, 40), i);
        }
        Checks.due("count(1) before", heap.count(1), 0);
        Checks.due("fifth", heap.large(0, 0, 33), 5);
        Checks.due("count(1)", heap.count(1), 1);
        Checks.due("count(0)", heap.count(0), 0);
        Checks.due("what the root held was still there", Checks.kinds(heap), "455000000455");
    }

    private static void nothingMade() {
        RegionHeap heap = new RegionHeap();
        for (int root = 0; root < 4; root++) {
            heap.large(root, 0, 40);
        }
        Checks.due("large(4, 0, 9)", heap.large(4, 0, 9), -2);
        Checks.due("serial(4)", heap.serial(4), 0);
        Checks.due("large(0, 0, 9)", heap.large(0, 0, 9), -2);
        Checks.due("serial(0)", heap.serial(0), 1);
        Checks.due("count(1)", heap.count(1), 2);
        Checks.due("count(3)", heap.count(3), 4);
    }

    private static void makesGoOnInTheCurrentRegion() {
        RegionHeap heap = new RegionHeap();
        heap.make(0, 0, 0);
        heap.large(1, 0, 9);
        Checks.due("place of the large one", Checks.place(heap, 1), "1+0");
        heap.make(2, 0, 0);
        Checks.due("place of the next small one", Checks.place(heap, 2), "0+2");
    }
}
