/** Promise 7: collect. */
public final class P07CollectTest {
    public static void main(String[] args) {
        rootsThenFieldsOfCopies();
        regionsThatStayComeBeforeFieldsOfCopies();
        edenToSurvivorToOld();
        behindTheLastCopiedOrToANewRegion();
        objectsNotReachedInRegionsThatStayKeepOthers();
        chosenRegionsAreCollected();
        bothKindsAtOnce();
        aRegionCopiedToIsFilledAnewLater();
        fullInstead();
        fullInsteadAfterSomeWerePlanned();
        liveCountsAndCurrentRegionAreForgotten();
        cyclesAreCopiedOnce();
        refused();
        Checks.finish();
    }

    private static void rootsThenFieldsOfCopies() {
        RegionHeap heap = new RegionHeap();
        heap.make(1, 1, 0);
        heap.make(0, 2, 0);
        heap.make(2, 0, 0);
        heap.link(1, 0, 2);
        heap.make(2, 0, 1);
        heap.link(0, 1, 2);
        heap.make(2, 0, 2);
        heap.link(0, 0, 2);
        heap.hold(2, -1);
        Checks.due("collect(0)", heap.collect(0), 5);
        Checks.due("root 0's first", Checks.place(heap, 0), "1+0");
        Checks.due("root 1's next", Checks.place(heap, 1), "1+4");
        heap.load(2, 0, 0);
        Checks.due("root 0's field 0", Checks.place(heap, 2), "1+7");
        heap.load(2, 0, 1);
        Checks.due("root 0's field 1", Checks.place(heap, 2), "1+11");
        heap.load(2, 1, 0);
        Checks.due("root 1's field, last", Checks.place(heap, 2), "1+14");
        Checks.due("serial of root 1's field", heap.serial(2), 3);
        Checks.due("used(1)", heap.used(1), 16);
        Checks.due("kinds", Checks.kinds(heap), "020000000000");
        Checks.due("count(2)", heap.count(2), 16);
    }

    private static void regionsThatStayComeBeforeFieldsOfCopies() {
        RegionHeap heap = new RegionHeap();
        heap.large(0, 3, 9);
        heap.make(1, 1, 0);
        heap.make(2, 0, 0);
        heap.link(1, 0, 2);
        heap.make(2, 0, 1);
        heap.link(0, 2, 2);
        heap.make(2, 0, 3);
        heap.link(0, 0, 2);
        heap.hold(2, -1);
        Checks.due("collect(0)", heap.collect(0), 4);
        Checks.due("root 1's", Checks.place(heap, 1), "2+0");
        heap.load(3, 0, 0);
        Checks.due("field 0 of the large one", Checks.place(heap, 3), "2+3");
        heap.load(3, 0, 2);
        Checks.due("field 2 of the large one", Checks.place(heap, 3), "2+8");
        heap.load(3, 1, 0);
        Checks.due("field of the one copied first", Checks.place(heap, 3), "2+11");
        Checks.due("the large one stays", Checks.place(heap, 0), "0+0");
    }

    private static void edenToSurvivorToOld() {
        RegionHeap heap = new RegionHeap();
        heap.make(0, 1, 1);
        heap.make(1, 1, 1);
        heap.hold(1, -1);
        Checks.due("first collect", heap.collect(0), 1);
        Checks.due("kinds after the first", Checks.kinds(heap), "020000000000");
        Checks.due("used(0)", heap.used(0), 0);
        Checks.due("used(1)", heap.used(1), 4);
        Checks.due("second collect", heap.collect(0), 1);
        Checks.due("kinds after the second", Checks.kinds(heap), "300000000000");
        Checks.due("third collect", heap.collect(0), 0);
        Checks.due("kinds after the third", Checks.kinds(heap), "300000000000");
        Checks.due("serial(0)", heap.serial(0), 1);
        Checks.due("size(0)", heap.size(0), 4);
        Checks.due("count(0)", heap.count(0), 3);
        Checks.due("count(2)", heap.count(2), 8);
    }

    private static void behindTheLastCopiedOrToANewRegion() {
        RegionHeap heap = new RegionHeap();
        heap.make(0, 3, 3);
        heap.make(1, 3, 0);
        heap.make(2, 3, 3);
        heap.make(3, 1, 0);
        Checks.due("collect(0)", heap.collect(0), 4);
        Checks.due("8 words", Checks.place(heap, 0), "2+0");
        Checks.due("5 words", Checks.place(heap, 1), "2+8");
        Checks.due("8 words more", Checks.place(heap, 2), "3+0");
        Checks.due("3 words, for which region 2 has room", Checks.place(heap, 3), "3+8");
        Checks.due("again", heap.collect(0), 4);
        Checks.due("again 3 words", Checks.place(heap, 3), "1+8");
        heap.make(4, 0, 0);
        Checks.due("an OLD region from before", heap.used(1), 11);
        heap.collect(0);
        heap.collect(0);
        Checks.due("is not gone on with", Checks.place(heap, 4), "2+0");
        Checks.due("kinds", Checks.kinds(heap), "333000000000");
    }

    private static void objectsNotReachedInRegionsThatStayKeepOthers() {
        RegionHeap heap = new RegionHeap();
        heap.make(0, 1, 0);
        heap.collect(0);
        heap.collect(0);
        heap.make(1, 0, 0);
        heap.link(0, 0, 1);
        heap.hold(0, -1);
        heap.hold(1, -1);
        Checks.due("collect(0)", heap.collect(0), 1);
        Checks.due("kinds", Checks.kinds(heap), "302000000000");
        Checks.due("mark()", heap.mark(), 0);
        Checks.due("chosen(1)", heap.chosen(1), 1);
        Checks.due("collect(1)", heap.collect(1), 0);
        Checks.due("kinds then", Checks.kinds(heap), "000000000000");
        Checks.due("count(0)", heap.count(0), 4);
    }

    private static void chosenRegionsAreCollected() {
        RegionHeap heap = new RegionHeap();
        heap.make(0, 1, 3);
        heap.make(1, 0, 2);
        heap.full();
        heap.hold(0, -1);
        Checks.due("mark()", heap.mark(), 4);
        Checks.due("collect(4), cost is 5", heap.collect(4), 0);
        Checks.due("place", Checks.place(heap, 1), "0+6");
        Checks.due("live(0) stays", heap.live(0), 4);
        Checks.due("collect(5)", heap.collect(5), 1);
        Checks.due("place then", Checks.place(heap, 1), "1+0");
        Checks.due("kinds", Checks.kinds(heap), "030000000000");
        Checks.due("live(1)", heap.live(1), -1);
        Checks.due("live(0)", heap.live(0), -1);
    }

    private static void bothKindsAtOnce() {
        RegionHeap heap = new RegionHeap();
        heap.make(0, 0, 0);
        heap.make(3, 0, 1);
        heap.collect(0);
        heap.make(1, 0, 2);
        heap.make(4, 0, 3);
        heap.hold(2, 3);
        Checks.due("kinds before", Checks.kinds(heap), "120000000000");
        Checks.due("collect(0)", heap.collect(0), 4);
        Checks.due("from SURVIVOR, first", Checks.place(heap, 0), "2+0");
        Checks.due("from EDEN", Checks.place(heap, 1), "3+0");
        Checks.due("from SURVIVOR, next", Checks.place(heap, 3), "2+2");
        Checks.due("the same for another root", Checks.place(heap, 2), "2+2");
        Checks.due("from EDEN, next", Checks.place(heap, 4), "3+4");
        Checks.due("kinds", Checks.kinds(heap), "003200000000");
    }

    private static void aRegionCopiedToIsFilledAnewLater() {
        RegionHeap heap = new RegionHeap();
        heap.make(0, 3, 3);
        heap.collect(0);
        heap.hold(0, -1);
        heap.collect(0);
        heap.make(0, 3, 3);
        heap.make(1, 3, 3);
        Checks.due("collect(0)", heap.collect(0), 2);
        Checks.due("places", Checks.place(heap, 0) + " " + Checks.place(heap, 1), "1+0 1+8");
    }

    private static void fullInstead() {
        RegionHeap heap = new RegionHeap();
        heap.large(0, 0, 40);
        heap.large(1, 0, 40);
        heap.large(2, 0, 40);
        heap.large(3, 0, 17);
        heap.make(4, 0, 0);
        heap.make(4, 0, 1);
        Checks.due("collect(0)", heap.collect(0), -2);
        Checks.due("place", Checks.place(heap, 4), "11+0");
        Checks.due("kinds", Checks.kinds(heap), "455455455453");
        Checks.due("live(11)", heap.live(11), 3);
        Checks.due("count(0)", heap.count(0), 0);
        Checks.due("count(1)", heap.count(1), 1);
        Checks.due("count(2)", heap.count(2), 0);
        Checks.due("nothing to copy needs no FREE region", heap.collect(0), 0);
    }

    private static void fullInsteadAfterSomeWerePlanned() {
        RegionHeap heap = new RegionHeap();
        heap.large(0, 0, 40);
        heap.large(1, 0, 40);
        heap.large(2, 0, 40);
        heap.make(3, 3, 3);
        heap.make(4, 3, 3);
        heap.make(5, 3, 3);
        Checks.due("collect(0)", heap.collect(0), -2);
        Checks.due("kinds", Checks.kinds(heap), "455455455330");
        Checks.due("places", Checks.place(heap, 3) + " " + Checks.place(heap, 4) + " " + Checks.place(heap, 5),
            "9+0 9+8 10+0");
        Checks.due("count(2)", heap.count(2), 0);
        Checks.due("region 11 can be made EDEN", heap.make(5, 0, 0), 7);
        Checks.due("kinds then", Checks.kinds(heap), "455455455331");
    }

    private static void liveCountsAndCurrentRegionAreForgotten() {
        RegionHeap heap = new RegionHeap();
        heap.make(0, 0, 0);
        heap.mark();
        heap.collect(0);
        Checks.due("live of the region collected", heap.live(0), -1);
        Checks.due("live of the region copied to", heap.live(1), -1);
        heap.large(1, 0, 9);
        heap.make(2, 0, 0);
        Checks.due("the next make takes a FREE region", Checks.place(heap, 2), "2+0");
    }

    private static void cyclesAreCopiedOnce() {
        RegionHeap heap = new RegionHeap();
        heap.make(0, 3, 0);
        heap.make(1, 3, 0);
        for (int field = 0; field < 3; field++) {
            heap.link(0, field, 1);
            heap.link(1, field, 0);
        }
        heap.hold(1, -1);
        Checks.due("collect(0)", heap.collect(0), 2);
        Checks.due("used(1)", heap.used(1), 10);
        heap.hold(0, -1);
        Checks.due("a cycle that is not reached", heap.collect(0), 0);
        Checks.due("kinds", Checks.kinds(heap), "000000000000");
    }

    private static void refused() {
        RegionHeap heap = new RegionHeap();
        heap.make(0, 1, 0);
        heap.mark();
        String before = Checks.state(heap);
        Checks.due("collect(-1)", heap.collect(-1), -1);
        Checks.due("collect of the least int", heap.collect(Integer.MIN_VALUE), -1);
        Checks.due("state", Checks.state(heap), before);
        Checks.due("collect of the greatest int", heap.collect(Integer.MAX_VALUE), 1);
    }
}
