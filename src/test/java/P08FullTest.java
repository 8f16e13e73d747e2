/** Promise 8: full. */
public final class P08FullTest {
    public static void main(String[] args) {
        pushesTogetherAroundLargeOnes();
        doesNotGoBackForSmallerOnes();
        allKindsBecomeOld();
        keepsTheOrderOfPlacesNotOfSerials();
        cyclesNotReachedAreGone();
        objectsNotReachedKeepNothing();
        RegionHeap heap = new RegionHeap();
        Checks.due("full() of an empty heap", heap.full(), 0);
        Checks.due("count(1)", heap.count(1), 1);
        Checks.due("kinds of an empty heap", Checks.kinds(heap), "000000000000");
        Checks.finish();
    }

    private static void pushesTogetherAroundLargeOnes() {
        RegionHeap heap = new RegionHeap();
        heap.make(0, 3, 3);
        heap.make(1, 3, 3);
        heap.large(2, 0, 17);
        heap.make(3, 3, 3);
        heap.make(4, 3, 0);
        heap.hold(1, -1);
        Checks.due("full()", heap.full(), 4);
        Checks.due("first", Checks.place(heap, 0), "0+0");
        Checks.due("second", Checks.place(heap, 3), "0+8");
        Checks.due("third, behind the large one", Checks.place(heap, 4), "3+0");
        Checks.due("the large one", Checks.place(heap, 2), "1+0");
        Checks.due("kinds", Checks.kinds(heap), "345300000000");
        Checks.due("live(0)", heap.live(0), 16);
        Checks.due("live(1)", heap.live(1), -1);
        Checks.due("live(2)", heap.live(2), -1);
        Checks.due("live(3)", heap.live(3), 5);
        Checks.due("used(2)", heap.used(2), 1);
        Checks.due("used(3)", heap.used(3), 5);
        heap.make(5, 0, 0);
        Checks.due("there was no current region", Checks.place(heap, 5), "4+0");
        heap.hold(2, -1);
        Checks.due("full() without the large one", heap.full(), 4);
        Checks.due("third then", Checks.place(heap, 4), "1+0");
        Checks.due("fourth then", Checks.place(heap, 5), "1+5");
        Checks.due("kinds then", Checks.kinds(heap), "330000000000");
        Checks.due("used(2) then", heap.used(2), 0);
        Checks.due("count(1)", heap.count(1), 2);
        Checks.due("count(0)", heap.count(0), 0);
        Checks.due("count(2)", heap.count(2), 0);
    }

    private static void doesNotGoBackForSmallerOnes() {
        RegionHeap heap = new RegionHeap();
        heap.make(0, 3, 3);
        heap.make(1, 3, 0);
        heap.make(2, 3, 3);
        heap.make(3, 1, 0);
        Checks.due("full()", heap.full(), 4);
        Checks.due("8 words more", Checks.place(heap, 2), "1+0");
        Checks.due("3 words, for which region 0 has room", Checks.place(heap, 3), "1+8");
        Checks.due("live(0)", heap.live(0), 13);
        Checks.due("live(1)", heap.live(1), 11);
    }

    private static void allKindsBecomeOld() {
        RegionHeap heap = new RegionHeap();
        heap.make(0, 0, 0);
        heap.collect(0);
        heap.collect(0);
        heap.make(1, 0, 1);
        heap.collect(0);
        heap.make(2, 0, 2);
        Checks.due("kinds before", Checks.kinds(heap), "312000000000");
        Checks.due("full()", heap.full(), 3);
        Checks.due("kinds", Checks.kinds(heap), "300000000000");
        Checks.due("from OLD", Checks.place(heap, 0), "0+0");
        Checks.due("from EDEN in region 1", Checks.place(heap, 2), "0+2");
        Checks.due("from SURVIVOR in region 2", Checks.place(heap, 1), "0+6");
        Checks.due("live(0)", heap.live(0), 9);
        Checks.due("live(1)", heap.live(1), -1);
    }

    private static void keepsTheOrderOfPlacesNotOfSerials() {
        RegionHeap heap = new RegionHeap();
        heap.make(1, 0, 0);
        heap.make(0, 0, 1);
        heap.collect(0);
        Checks.due("root 0's lies first", Checks.place(heap, 0), "1+0");
        Checks.due("full()", heap.full(), 2);
        Checks.due("root 0's", Checks.place(heap, 0), "0+0");
        Checks.due("root 1's", Checks.place(heap, 1), "0+3");
    }

    private static void cyclesNotReachedAreGone() {
        RegionHeap heap = new RegionHeap();
        heap.large(0, 1, 40);
        heap.make(1, 1, 0);
        heap.link(0, 0, 1);
        heap.link(1, 0, 0);
        heap.hold(0, -1);
        Checks.due("full() while it is reached", heap.full(), 2);
        heap.hold(1, -1);
        Checks.due("full()", heap.full(), 0);
        Checks.due("kinds", Checks.kinds(heap), "000000000000");
    }

    private static void objectsNotReachedKeepNothing() {
        RegionHeap heap = new RegionHeap();
        heap.make(0, 1, 0);
        heap.full();
        heap.make(1, 0, 0);
        heap.link(0, 0, 1);
        heap.hold(0, -1);
        heap.hold(1, -1);
        heap.make(2, 0, 3);
        Checks.due("full()", heap.full(), 1);
        Checks.due("place", Checks.place(heap, 2), "0+0");
    }
}
