/** Promise 19: count. */
public final class P19CountTest {
    public static void main(String[] args) {
        RegionHeap heap = new RegionHeap();
        counts(heap, 0, 0, 0, 0);
        heap.collect(0);
        counts(heap, 1, 0, 0, 0);
        heap.make(0, 0, 1);
        heap.large(1, 0, 9);
        counts(heap, 1, 0, 0, 2);
        heap.collect(7);
        counts(heap, 2, 0, 3, 2);
        heap.full();
        counts(heap, 2, 1, 3, 2);
        heap.mark();
        heap.chosen(9);
        heap.collect(-1);
        heap.make(0, 4, 0);
        heap.large(0, 0, 8);
        counts(heap, 2, 1, 3, 2);
        for (int i = 0; i < 6; i++) {
            heap.make(2, 3, 3);
        }
        counts(heap, 2, 1, 3, 8);
        heap.make(2, 3, 3);
        counts(heap, 3, 1, 11, 9);
        int[] others = {Integer.MIN_VALUE, -1, 4, 5, Integer.MAX_VALUE};
        for (int which : others) {
            Checks.due("count(" + which + ")", heap.count(which), -1);
        }
        fullInsteadCountsAsFullAlone();
        Checks.finish();
    }

    private static void fullInsteadCountsAsFullAlone() {
        RegionHeap heap = new RegionHeap();
        for (int root = 0; root < 3; root++) {
            heap.large(root, 0, 40);
        }
        heap.large(3, 0, 32);
        heap.make(4, 0, 0);
        heap.collect(0);
        counts(heap, 0, 1, 0, 5);
        heap.make(5, 3, 3);
        counts(heap, 1, 2, 0, 6);
        heap.make(5, 3, 3);
        counts(heap, 2, 3, 0, 6);
    }

    private static void counts(RegionHeap heap, int copying, int full, int words, int made) {
        int[] due = {copying, full, words, made};
        for (int which = 0; which < 4; which++) {
            Checks.due("count(" + which + ") after " + made + " made", heap.count(which), due[which]);
        }
    }
}
