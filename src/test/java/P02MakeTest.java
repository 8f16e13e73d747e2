/** Promise 2: make, with each step of making a small object. */
public final class P02MakeTest {
    public static void main(String[] args) {
        sizesAndFirstPlace();
        fieldsAreNullAtFirst();
        objectsLieBehindOneAnother();
        aFullCurrentRegionIsLeftForGood();
        thirdEdenFullMeansCollection();
        itsCollectionHasBudgetZero();
        liveCountIsForgotten();
        collectionThenFullThenOld();
        leastOldRegionWithRoom();
        nothingMade();
        Checks.finish();
    }

    private static void sizesAndFirstPlace() {
        for (int fields = 0; fields <= 3; fields++) {
            for (int extra = 0; extra <= 3; extra++) {
                RegionHeap heap = new RegionHeap();
                String call = "make(5, " + fields + ", " + extra + ")";
                Checks.due(call, heap.make(5, fields, extra), 1);
                Checks.due("size after " + call, heap.size(5), 2 + fields + extra);
                Checks.due("place after " + call, Checks.place(heap, 5), "0+0");
                Checks.due("kinds after " + call, Checks.kinds(heap), "100000000000");
                Checks.due("link of the last field", heap.link(5, fields - 1, 5), fields > 0);
                Checks.due("link of no field", heap.link(5, fields, 5), false);
            }
        }
    }

    private static void fieldsAreNullAtFirst() {
        RegionHeap heap = new RegionHeap();
        heap.make(0, 3, 0);
        for (int field = 0; field < 3; field++) {
            heap.hold(1, 0);
            Checks.due("load of a new field", heap.load(1, 0, field), true);
            Checks.due("serial of a new field", heap.serial(1), 0);
        }
    }

    private static void objectsLieBehindOneAnother() {
        RegionHeap heap = new RegionHeap();
        Checks.due("first", heap.make(0, 3, 3), 1);
        Checks.due("second", heap.make(1, 1, 0), 2);
        Checks.due("third fits exactly", heap.make(2, 3, 0), 3);
        Checks.due("second's place", Checks.place(heap, 1), "0+8");
        Checks.due("third's place", Checks.place(heap, 2), "0+11");
        Checks.due("used(0)", heap.used(0), 16);
        Checks.due("fourth", heap.make(3, 0, 0), 4);
        Checks.due("fourth's place", Checks.place(heap, 3), "1+0");
        Checks.due("kinds", Checks.kinds(heap), "110000000000");
    }

    private static void aFullCurrentRegionIsLeftForGood() {
        RegionHeap heap = new RegionHeap();
        heap.make(0, 3, 3);
        heap.make(0, 3, 0);
        heap.make(1, 3, 3);
        heap.make(2, 1, 0);
        Checks.due("used(0)", heap.used(0), 13);
        Checks.due("place of 8 words", Checks.place(heap, 1), "1+0");
        Checks.due("place of 3 words, for which region 0 has room", Checks.place(heap, 2), "1+8");
    }

    private static void thirdEdenFullMeansCollection() {
        RegionHeap heap = new RegionHeap();
        for (int i = 1; i <= 6; i++) {
            Checks.due("make", heap.make(0, 3, 3), i);
        }
        Checks.due("kinds before", Checks.kinds(heap), "111000000000");
        Checks.due("count(0) before", heap.count(0), 0);
        Checks.due("seventh", heap.make(0, 3, 3), 7);
        Checks.due("kinds after", Checks.kinds(heap), "100200000000");
        Checks.due("place of the seventh", Checks.place(heap, 0), "0+0");
        Checks.due("what the root held is copied", heap.used(3), 8);
        Checks.due("count(0)", heap.count(0), 1);
        Checks.due("count(1)", heap.count(1), 0);
        Checks.due("count(2)", heap.count(2), 8);
    }

    private static void itsCollectionHasBudgetZero() {
        RegionHeap heap = new RegionHeap();
        heap.make(0, 0, 0);
        heap.full();
        heap.hold(0, -1);
        heap.mark();
        Checks.due("chosen(1)", heap.chosen(1), 1);
        for (int i = 0; i < 7; i++) {
            heap.make(0, 3, 3);
        }
        Checks.due("count(0)", heap.count(0), 1);
        Checks.due("no OLD region is collected", Checks.kinds(heap), "310020000000");
    }

    private static void liveCountIsForgotten() {
        RegionHeap heap = new RegionHeap();
        heap.make(0, 0, 0);
        heap.mark();
        Checks.due("live(0) known", heap.live(0), 2);
        heap.make(1, 0, 0);
        Checks.due("live(0) after a make there", heap.live(0), -1);
    }

    /** Regions 0 .. 10 are taken by large objects that roots 0 .. 3 hold. */
    private static RegionHeap withOneRegionLeft() {
        RegionHeap heap = new RegionHeap();
        heap.large(0, 0, 40);
        heap.large(1, 0, 40);
        heap.large(2, 0, 40);
        heap.large(3, 0, 32);
        return heap;
    }

    private static void collectionThenFullThenOld() {
        RegionHeap heap = withOneRegionLeft();
        Checks.due("fifth", heap.make(4, 0, 0), 5);
        Checks.due("sixth", heap.make(4, 3, 3), 6);
        Checks.due("place of the sixth", Checks.place(heap, 4), "11+2");
        Checks.due("seventh", heap.make(5, 3, 3), 7);
        Checks.due("place of the sixth then", Checks.place(heap, 4), "11+0");
        Checks.due("place of the seventh", Checks.place(heap, 5), "11+8");
        Checks.due("kind(11)", heap.kind(11), 3);
        Checks.due("live(11) is not known", heap.live(11), -1);
        Checks.due("count(0): it could not copy", heap.count(0), 0);
        Checks.due("count(1): instead, and once more", heap.count(1), 2);
        Checks.due("eighth", heap.make(5, 0, 0), -2);
        Checks.due("the root is as it was", heap.serial(5), 7);
        Checks.due("count(0): nothing to copy", heap.count(0), 1);
        Checks.due("count(1)", heap.count(1), 3);
        Checks.due("count(3)", heap.count(3), 7);
        Checks.due("live(11) after a full collection", heap.live(11), 16);
    }

    private static void leastOldRegionWithRoom() {
        RegionHeap heap = new RegionHeap();
        for (int root = 0; root < 3; root++) {
            heap.large(root, 0, 40);
        }
        heap.make(3, 3, 3);
        heap.make(4, 3, 2);
        heap.link(3, 0, 4);
        heap.make(4, 3, 3);
        heap.link(3, 1, 4);
        heap.make(4, 3, 1);
        heap.link(3, 2, 4);
        heap.make(4, 3, 3);
        heap.make(5, 3, 0);
        heap.link(4, 0, 5);
        Checks.due("used(9)", heap.used(9), 15);
        Checks.due("used(10)", heap.used(10), 14);
        Checks.due("used(11)", heap.used(11), 13);
        Checks.due("4 words", heap.make(5, 0, 2), -2);
        Checks.due("count(1)", heap.count(1), 2);
        Checks.due("2 words", heap.make(5, 0, 0), 10);
        Checks.due("place of 2 words", Checks.place(heap, 5), "10+14");
        Checks.due("count(0)", heap.count(0), 1);
        Checks.due("count(1)", heap.count(1), 3);
        Checks.due("live(9)", heap.live(9), 15);
        Checks.due("live(10)", heap.live(10), -1);
        Checks.due("live(11)", heap.live(11), 13);
        Checks.due("kinds", Checks.kinds(heap), "455455455333");
    }

    private static void nothingMade() {
        RegionHeap heap = new RegionHeap();
        for (int root = 0; root < 4; root++) {
            heap.large(root, 0, 40);
        }
        Checks.due("make(4, 0, 0)", heap.make(4, 0, 0), -2);
        Checks.due("serial(4)", heap.serial(4), 0);
        Checks.due("make(0, 0, 0)", heap.make(0, 0, 0), -2);
        Checks.due("serial(0)", heap.serial(0), 1);
        Checks.due("count(0)", heap.count(0), 2);
        Checks.due("count(1)", heap.count(1), 2);
        Checks.due("count(3)", heap.count(3), 4);
        heap.hold(1, -1);
        Checks.due("after the full collection of a make", heap.make(1, 0, 0), 5);
        Checks.due("its place", Checks.place(heap, 1), "3+0");
        Checks.due("kind(3)", heap.kind(3), 1);
    }
}
