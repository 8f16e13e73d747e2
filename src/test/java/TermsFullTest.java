/** "Terms", A FULL COLLECTION: each sentence that names an edge. */
public final class TermsFullTest {
    public static void main(String[] args) {
        notReachedAreGone();
        regionsOfLargeOnesAreFree();
        inTheOrderOfRegionsAndOffsets();
        fromTheLeastRegion();
        asLongAsTheyHaveRoom();
        theNextSuchRegion();
        oldWithLiveCounts();
        noCurrentRegion();
        rootsAndFields();
        aHeapThatIsFull();
        anEmptyHeap();
        Checks.finish();
    }

    private static void notReachedAreGone() {
        Checks.sentence("A FULL COLLECTION: objects that are not reached are gone");
        RegionHeap heap = new RegionHeap();
        heap.make(0, 1, 0);
        heap.make(1, 1, 0);
        heap.link(0, 0, 1);
        heap.link(1, 0, 0);
        heap.make(2, 0, 0);
        heap.hold(0, -1);
        Checks.due("full(), a cycle of which a root holds one", heap.full(), 3);
        heap.hold(1, -1);
        Checks.due("full(), a cycle alone", heap.full(), 1);
        Checks.due("place", Checks.place(heap, 2), "0+0");
        Checks.due("used(0)", heap.used(0), 2);
    }

    private static void regionsOfLargeOnesAreFree() {
        Checks.sentence("the regions of large ones among them are FREE");
        RegionHeap heap = new RegionHeap();
        heap.large(0, 0, 40);
        heap.large(1, 1, 40);
        heap.large(2, 0, 40);
        heap.make(3, 0, 0);
        heap.link(1, 0, 3);
        heap.hold(1, -1);
        Checks.due("full()", heap.full(), 3);
        Checks.due("kinds, the small one in the first that is FREE now", Checks.kinds(heap), "455300455000");
        Checks.due("used", heap.used(3) + " " + heap.used(4) + " " + heap.used(5), "2 0 0");
        Checks.due("place of the large one behind", Checks.place(heap, 2), "6+0");
        heap.hold(0, -1);
        heap.hold(2, -1);
        heap.hold(3, -1);
        Checks.due("full() then", heap.full(), 0);
        Checks.due("kinds then", Checks.kinds(heap), "000000000000");
        Checks.due("used together", Heaps.usedTogether(heap), 0);
    }

    private static void inTheOrderOfRegionsAndOffsets() {
        Checks.sentence("The small ones that are left are pushed together in the order of their regions and offsets");
        RegionHeap heap = new RegionHeap();
        heap.make(1, 0, 0);
        heap.make(0, 0, 1);
        heap.collect(0);
        heap.make(2, 0, 2);
        Checks.due("places", Checks.place(heap, 0) + " " + Checks.place(heap, 1) + " " + Checks.place(heap, 2),
            "1+0 1+3 0+0");
        Checks.due("full()", heap.full(), 3);
        Checks.due("places then", Checks.place(heap, 0) + " " + Checks.place(heap, 1) + " " + Checks.place(heap, 2),
            "0+4 0+7 0+0");
    }

    private static void fromTheLeastRegion() {
        Checks.sentence("from the least region that is not LARGE or REST on");
        RegionHeap heap = new RegionHeap();
        heap.large(0, 0, 17);
        heap.large(1, 0, 9);
        heap.make(2, 0, 0);
        heap.make(2, 0, 0);
        Checks.due("full()", heap.full(), 3);
        Checks.due("behind the large ones", Checks.place(heap, 2), "3+0");
        heap.hold(1, -1);
        Checks.due("full(), the second large one not held", heap.full(), 2);
        Checks.due("in its region", Checks.place(heap, 2), "2+0");
        Checks.due("kinds", Checks.kinds(heap), "453000000000");
    }

    private static void asLongAsTheyHaveRoom() {
        Checks.sentence("behind one another as long as they have room");
        RegionHeap heap = new RegionHeap();
        heap.make(0, 3, 3);
        heap.make(1, 3, 3);
        heap.make(2, 3, 3);
        heap.make(3, 3, 2);
        heap.make(4, 0, 0);
        Checks.due("full()", heap.full(), 5);
        Checks.due("8 words of 8", Checks.place(heap, 1), "0+8");
        Checks.due("8 words of 0", Checks.place(heap, 2), "1+0");
        Checks.due("7 words of 8", Checks.place(heap, 3), "1+8");
        Checks.due("2 words of 1", Checks.place(heap, 4), "2+0");
    }

    private static void theNextSuchRegion() {
        Checks.sentence("and then on in the next such region");
        RegionHeap heap = new RegionHeap();
        heap.make(0, 3, 3);
        heap.large(1, 0, 33);
        heap.make(0, 3, 2);
        heap.make(2, 3, 3);
        heap.make(3, 3, 3);
        heap.make(4, 0, 0);
        Checks.due("kinds", Checks.kinds(heap), "145511000000");
        Checks.due("full()", heap.full(), 5);
        Checks.due("places", Checks.place(heap, 0) + " " + Checks.place(heap, 2) + " " + Checks.place(heap, 3) + " "
            + Checks.place(heap, 4), "0+0 0+7 4+0 4+8");
        Checks.due("what is past is not gone back to", heap.used(0), 15);
        Checks.due("kinds then", Checks.kinds(heap), "345530000000");
    }

    private static void oldWithLiveCounts() {
        Checks.sentence("The regions that have objects then are OLD, with live counts that are known (all that they have used);"
            + " the others (but LARGE and REST) are FREE.");
        RegionHeap heap = new RegionHeap();
        heap.make(0, 0, 0);
        heap.collect(0);
        heap.collect(0);
        heap.make(1, 0, 1);
        heap.collect(0);
        heap.make(2, 3, 3);
        heap.large(3, 0, 17);
        heap.make(4, 3, 3);
        Checks.due("kinds", Checks.kinds(heap), "312450000000");
        Checks.due("full()", heap.full(), 5);
        Checks.due("kinds then", Checks.kinds(heap), "330450000000");
        int[] live = {10, 11, -1, -1, -1, -1};
        int[] used = {10, 11, 0, 16, 1, 0};
        for (int region = 0; region < live.length; region++) {
            Checks.due("live(" + region + ")", heap.live(region), live[region]);
            Checks.due("used(" + region + ")", heap.used(region), used[region]);
        }
    }

    private static void noCurrentRegion() {
        Checks.sentence("There is no current region.");
        RegionHeap heap = new RegionHeap();
        heap.make(0, 0, 0);
        heap.full();
        heap.make(1, 0, 0);
        Checks.due("a new EDEN region, though region 0 has room", Checks.place(heap, 1), "1+0");
    }

    private static void rootsAndFields() {
        Checks.sentence("Roots and fields hold the objects where they are now.");
        RegionHeap heap = new RegionHeap();
        heap.make(0, 0, 3);
        heap.large(1, 2, 9);
        heap.make(2, 2, 0);
        heap.make(3, 0, 0);
        heap.link(1, 0, 2);
        heap.link(1, 1, 1);
        heap.link(2, 1, 3);
        heap.hold(0, -1);
        heap.hold(2, -1);
        heap.hold(3, -1);
        Checks.due("full()", heap.full(), 3);
        heap.load(2, 1, 0);
        Checks.due("field of the large one", heap.serial(2) + " at " + Checks.place(heap, 2), "3 at 0+0");
        heap.load(3, 2, 1);
        Checks.due("field of the small one", heap.serial(3) + " at " + Checks.place(heap, 3), "4 at 0+4");
        heap.load(4, 1, 1);
        Checks.due("field that holds its own object", heap.serial(4) + " at " + Checks.place(heap, 4), "2 at 1+0");
        heap.load(5, 2, 0);
        Checks.due("field that holds null", heap.serial(5), 0);
    }

    private static void aHeapThatIsFull() {
        Checks.sentence("and then on in the next such region");
        RegionHeap heap = new RegionHeap();
        for (int i = 1; i <= 24; i++) {
            Checks.due("object " + i, Heaps.chainEight(heap), i);
        }
        Checks.due("full(), every word used", heap.full(), 24);
        Checks.due("kinds", Checks.kinds(heap), "333333333333");
        Checks.due("used together", Heaps.usedTogether(heap), 192);
        Checks.due("mark()", heap.mark(), 192);
        Checks.due("one more", Heaps.chainEight(heap), -2);
    }

    private static void anEmptyHeap() {
        Checks.sentence("the others (but LARGE and REST) are FREE");
        RegionHeap heap = new RegionHeap();
        Checks.due("full() of an empty heap", heap.full(), 0);
        heap.make(0, 0, 0);
        heap.hold(0, -1);
        Checks.due("full() of what is not reached", heap.full(), 0);
        Checks.due("kinds", Checks.kinds(heap), "000000000000");
        Checks.due("live(0)", heap.live(0), -1);
        Checks.due("count(1)", heap.count(1), 2);
    }
}
