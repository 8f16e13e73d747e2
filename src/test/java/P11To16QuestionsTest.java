/** Promises 11 to 16: serial, region, offset, size, kind, used. */
public final class P11To16QuestionsTest {
    public static void main(String[] args) {
        RegionHeap heap = new RegionHeap();
        heap.make(0, 1, 0);
        heap.make(5, 2, 3);
        heap.large(2, 0, 33);
        heap.make(3, 3, 3);
        heap.hold(0, -1);

        int[] serials = {0, 0, 3, 4, 0, 2};
        int[] regions = {-1, -1, 1, 4, -1, 0};
        int[] offsets = {-1, -1, 0, 0, -1, 3};
        int[] sizes = {-1, -1, 33, 8, -1, 7};
        for (int root = 0; root < 6; root++) {
            Checks.due("serial(" + root + ")", heap.serial(root), serials[root]);
            Checks.due("region(" + root + ")", heap.region(root), regions[root]);
            Checks.due("offset(" + root + ")", heap.offset(root), offsets[root]);
            Checks.due("size(" + root + ")", heap.size(root), sizes[root]);
        }
        int[] kinds = {1, 4, 5, 5, 1, 0, 0, 0, 0, 0, 0, 0};
        int[] used = {10, 16, 16, 1, 8, 0, 0, 0, 0, 0, 0, 0};
        asked(heap, kinds, used);
        heap.collect(0);
        asked(heap, new int[] {0, 4, 5, 5, 0, 2, 0, 0, 0, 0, 0, 0}, new int[] {0, 16, 16, 1, 0, 15, 0, 0, 0, 0, 0, 0});
        Checks.due("region(3) after a copy", heap.region(3), 5);
        Checks.due("offset(3) after a copy", heap.offset(3), 0);
        Checks.due("offset(5) after a copy", heap.offset(5), 8);
        Checks.due("serial(5) after a copy", heap.serial(5), 2);
        Checks.due("size(5) after a copy", heap.size(5), 7);
        heap.hold(2, -1);
        heap.full();
        asked(heap, new int[] {3, 0, 0, 0, 0, 0, 0, 0, 0, 0, 0, 0}, new int[] {15, 0, 0, 0, 0, 0, 0, 0, 0, 0, 0, 0});
        Checks.due("region(5) after a full collection", heap.region(5), 0);
        Checks.due("serial(5) after a full collection", heap.serial(5), 2);
        outside(heap);
        Checks.finish();
    }

    private static void asked(RegionHeap heap, int[] kinds, int[] used) {
        for (int region = 0; region < 12; region++) {
            Checks.due("kind(" + region + ")", heap.kind(region), kinds[region]);
            Checks.due("used(" + region + ")", heap.used(region), used[region]);
        }
    }

    private static void outside(RegionHeap heap) {
        int[] noRoots = {Integer.MIN_VALUE, -1, 6, 11, Integer.MAX_VALUE};
        for (int root : noRoots) {
            Checks.due("serial(" + root + ")", heap.serial(root), -1);
            Checks.due("region(" + root + ")", heap.region(root), -1);
            Checks.due("offset(" + root + ")", heap.offset(root), -1);
            Checks.due("size(" + root + ")", heap.size(root), -1);
        }
        int[] noRegions = {Integer.MIN_VALUE, -1, 12, Integer.MAX_VALUE};
        for (int region : noRegions) {
            Checks.due("kind(" + region + ")", heap.kind(region), -1);
            Checks.due("used(" + region + ")", heap.used(region), -1);
        }
    }
}
