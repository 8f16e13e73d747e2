/** "Terms", MAKING a small object, steps (a) to (e), and MAKING a large one: each sentence that names an edge. */
public final class TermsMakingTest {
    public static void main(String[] args) {
        roomInTheCurrentRegion();
        lessThanThreeEden();
        leastFreeBecomesCurrent();
        twoEdenButNoneFree();
        collectionWithBudgetZero();
        whatTheRootHeldIsStillReachedThen();
        fullInsteadThenAgain();
        fullThenAgain();
        oldRegionWithRoom();
        oldRegionWithTheLeastNumber();
        oldRegionZero();
        oldRegionIsNotCurrent();
        nothingMadeButTheCollectionsStay();
        largeToTheLeastSideBySide();
        largeAfterAFullCollection();
        largeNothingMade();
        largeNeedsThemSideBySide();
        Checks.finish();
    }

    private static void roomInTheCurrentRegion() {
        Checks.sentence("(a) if there is a CURRENT region and the object has room in it (behind what is used), it comes there");
        RegionHeap exact = new RegionHeap();
        exact.make(0, 3, 3);
        exact.make(1, 3, 3);
        Checks.due("8 words of 8", Checks.place(exact, 1), "0+8");
        RegionHeap over = new RegionHeap();
        over.make(0, 3, 2);
        over.make(1, 0, 0);
        over.make(2, 3, 3);
        Checks.due("8 words of 7", Checks.place(over, 2), "1+0");
        RegionHeap behind = new RegionHeap();
        behind.make(0, 3, 3);
        behind.hold(0, -1);
        behind.make(1, 3, 3);
        behind.make(2, 0, 0);
        Checks.due("words that nothing reached has are used", Checks.place(behind, 2), "1+0");
    }

    private static void lessThanThreeEden() {
        Checks.sentence("otherwise, if there are less than 3 EDEN regions and a FREE one");
        RegionHeap heap = new RegionHeap();
        for (int root = 0; root < 6; root++) {
            heap.make(root, 3, 3);
        }
        Checks.due("a third EDEN region", Checks.kinds(heap), "111000000000");
        Checks.due("count(0)", heap.count(0), 0);
        Checks.due("one more", heap.make(5, 0, 0), 7);
        Checks.due("no fourth", Checks.kinds(heap), "100222000000");
        Checks.due("count(0) then", heap.count(0), 1);
    }

    private static void leastFreeBecomesCurrent() {
        Checks.sentence("the FREE one with the least number becomes EDEN and the current region, and the object comes there");
        RegionHeap heap = new RegionHeap();
        heap.large(0, 0, 16);
        heap.make(1, 0, 0);
        heap.collect(0);
        Checks.due("kinds", Checks.kinds(heap), "402000000000");
        heap.make(2, 3, 0);
        Checks.due("the least that is FREE", Checks.place(heap, 2), "1+0");
        heap.make(3, 3, 2);
        heap.make(4, 3, 3);
        Checks.due("the next that is FREE", Checks.place(heap, 4), "3+0");
        heap.make(5, 0, 0);
        Checks.due("that one is the current region, though region 1 has room", Checks.place(heap, 5), "3+8");
    }

    private static void twoEdenButNoneFree() {
        Checks.sentence("(b) If that can't be, there is a collection with budget 0, and (a) is tried again.");
        RegionHeap heap = Heaps.walled(2);
        for (int i = 0; i < 4; i++) {
            heap.make(1, 3, 3);
        }
        heap.hold(1, -1);
        Checks.due("kinds", Checks.kinds(heap), "444444444411");
        Checks.due("count(0)", heap.count(0), 0);
        Checks.due("one more", heap.make(1, 0, 0), 15);
        Checks.due("its place", Checks.place(heap, 1), "10+0");
        Checks.due("kinds then", Checks.kinds(heap), "444444444410");
        Checks.due("count(0) then", heap.count(0), 1);
        Checks.due("count(1): (a) could be", heap.count(1), 0);
    }

    private static void collectionWithBudgetZero() {
        Checks.sentence("a collection with budget 0");
        RegionHeap heap = new RegionHeap();
        heap.make(0, 0, 0);
        heap.full();
        heap.hold(0, -1);
        heap.mark();
        Checks.due("chosen(0), the OLD region costs 1", heap.chosen(0), 0);
        Checks.due("chosen(1)", heap.chosen(1), 1);
        for (int i = 0; i < 7; i++) {
            heap.make(0, 3, 3);
        }
        Checks.due("count(0)", heap.count(0), 1);
        Checks.due("the OLD region stays", heap.kind(0) + " " + heap.used(0) + " " + heap.live(0), "3 2 0");
    }

    private static void whatTheRootHeldIsStillReachedThen() {
        Checks.sentence("there is a collection with budget 0, and (a) is tried again");
        RegionHeap heap = new RegionHeap();
        for (int i = 0; i < 6; i++) {
            heap.make(3, 3, 3);
        }
        Checks.due("seventh", heap.make(3, 3, 3), 7);
        Checks.due("the sixth was copied", heap.count(2), 8);
        Checks.due("kinds", Checks.kinds(heap), "100200000000");
        Checks.due("the root holds the seventh", heap.serial(3), 7);
        Checks.due("its place", Checks.place(heap, 3), "0+0");
    }

    private static void fullInsteadThenAgain() {
        Checks.sentence("If that can't be, there is a collection with budget 0, and (a) is tried again.");
        RegionHeap heap = Heaps.walled(3);
        heap.make(1, 3, 3);
        for (int i = 0; i < 5; i++) {
            heap.make(2, 3, 3);
        }
        Checks.due("kinds", Checks.kinds(heap), "444444444111");
        Checks.due("one more", heap.make(3, 0, 0), 16);
        Checks.due("kinds then", Checks.kinds(heap), "444444444310");
        Checks.due("places", Checks.place(heap, 1) + " " + Checks.place(heap, 2) + " " + Checks.place(heap, 3),
            "9+0 9+8 10+0");
        Checks.due("count(0): no FREE region to copy to", heap.count(0), 0);
        Checks.due("count(1): a full one instead, and no other", heap.count(1), 1);
    }

    private static void fullThenAgain() {
        Checks.sentence("(c) If that can't be, there is a full collection, and (a) is tried again.");
        RegionHeap heap = Heaps.walled(1);
        heap.make(1, 0, 0);
        heap.full();
        heap.hold(0, -1);
        Checks.due("kinds", Checks.kinds(heap), "444444444443");
        Checks.due("one more", heap.make(2, 0, 0), 13);
        Checks.due("kinds then", Checks.kinds(heap), "310000000000");
        Checks.due("to EDEN, though an OLD one has room", Checks.place(heap, 2), "1+0");
        Checks.due("live(0) stays known", heap.live(0), 2);
        Checks.due("count(0): it copied nothing", heap.count(0), 1);
        Checks.due("count(1)", heap.count(1), 2);
        fullInsteadThenFull();
    }

    private static void fullInsteadThenFull() {
        RegionHeap heap = Heaps.walled(1);
        heap.make(1, 3, 3);
        heap.make(2, 3, 3);
        Checks.due("no room anywhere", heap.make(3, 0, 0), -2);
        Checks.due("count(0)", heap.count(0), 0);
        Checks.due("count(1): one instead of (b) and one for (c)", heap.count(1), 2);
    }

    private static void oldRegionWithRoom() {
        Checks.sentence("(d) If that can't be, it comes to the OLD region with the least number in which it has room,"
            + " whose live count is not known from then on.");
        RegionHeap heap = Heaps.walled(1);
        heap.make(1, 3, 3);
        heap.make(2, 1, 3);
        heap.full();
        Checks.due("kind and words used", heap.kind(11) + " " + heap.used(11), "3 14");
        Checks.due("3 words of 2", heap.make(3, 0, 1), -2);
        Checks.due("live(11) is known", heap.live(11), 14);
        Checks.due("2 words of 2", heap.make(3, 0, 0), 14);
        Checks.due("place", Checks.place(heap, 3), "11+14");
        Checks.due("live(11) is not known", heap.live(11), -1);
        Checks.due("it stays OLD, and is full", heap.kind(11) + " " + heap.used(11), "3 16");
        Checks.due("2 words of 0", heap.make(4, 0, 0), -2);
    }

    private static void oldRegionWithTheLeastNumber() {
        Checks.sentence("the OLD region with the least number in which it has room");
        RegionHeap heap = Heaps.walled(2);
        heap.make(1, 3, 3);
        heap.make(2, 3, 1);
        heap.make(3, 3, 3);
        heap.full();
        Checks.due("words used", heap.used(10) + " " + heap.used(11), "14 8");
        heap.make(4, 0, 1);
        Checks.due("3 words have no room in region 10", Checks.place(heap, 4), "11+8");
        Checks.due("live counts", heap.live(10) + " " + heap.live(11), "14 -1");
        heap.make(5, 0, 0);
        Checks.due("2 words have", Checks.place(heap, 5), "10+14");
        Checks.due("live counts then", heap.live(10) + " " + heap.live(11), "-1 11");
        heap.hold(1, 5);
        heap.make(5, 0, 0);
        Checks.due("words used, pushed together by (c) first", heap.used(10) + " " + heap.used(11), "16 5");
        Checks.due("its place", Checks.place(heap, 5), "11+3");
    }

    private static void oldRegionZero() {
        Checks.sentence("the OLD region with the least number in which it has room");
        RegionHeap heap = new RegionHeap();
        heap.make(0, 3, 0);
        heap.full();
        for (int i = 0; i < 11; i++) {
            heap.large(1, 1, 16);
            heap.link(1, 0, 2);
            heap.hold(2, 1);
        }
        Checks.due("kinds", Checks.kinds(heap), "344444444444");
        heap.make(3, 0, 0);
        Checks.due("to region 0", Checks.place(heap, 3), "0+5");
    }

    private static void oldRegionIsNotCurrent() {
        Checks.sentence("(a) if there is a CURRENT region");
        RegionHeap heap = Heaps.walled(1);
        heap.make(1, 0, 0);
        heap.full();
        heap.make(2, 0, 0);
        Checks.due("counts with one made in OLD", heap.count(0) + " " + heap.count(1), "1 2");
        heap.make(3, 0, 0);
        Checks.due("place of another one", Checks.place(heap, 3), "11+4");
        Checks.due("it took its collections too", heap.count(0) + " " + heap.count(1), "2 3");
    }

    private static void nothingMadeButTheCollectionsStay() {
        Checks.sentence("(e) If there is none, nothing is made (but the collections stay).");
        RegionHeap heap = Heaps.walled(1);
        heap.make(1, 3, 3);
        heap.make(2, 0, 0);
        heap.make(3, 2, 2);
        heap.hold(2, -1);
        Checks.due("place before", Checks.place(heap, 3), "11+10");
        Checks.due("5 words of 2", heap.make(2, 0, 3), -2);
        Checks.due("root 2 holds null still", heap.serial(2), 0);
        Checks.due("number of the last one made", heap.count(3), 14);
        Checks.due("pushed together", Checks.place(heap, 3), "11+8");
        Checks.due("kind, used, live", heap.kind(11) + " " + heap.used(11) + " " + heap.live(11), "3 14 14");
        Checks.due("count(1)", heap.count(1), 2);
        Checks.due("5 words for a root that holds one", heap.make(3, 0, 3), -2);
        Checks.due("root 3 holds what it held", heap.serial(3) + " at " + Checks.place(heap, 3), "14 at 11+8");
    }

    private static void largeToTheLeastSideBySide() {
        Checks.sentence("MAKING a large object: it comes to the least regions, side by side, that are FREE and as many as it needs.");
        RegionHeap heap = new RegionHeap();
        heap.large(0, 0, 9);
        heap.large(1, 0, 9);
        heap.large(0, 0, 17);
        heap.large(2, 0, 9);
        heap.large(0, 0, 33);
        heap.large(3, 0, 9);
        heap.hold(0, -1);
        heap.full();
        Checks.due("gaps of one, two, three, three", Checks.kinds(heap), "040040004000");
        heap.large(0, 0, 33);
        Checks.due("three regions", heap.region(0), 5);
        heap.large(4, 0, 17);
        Checks.due("two regions", heap.region(4), 2);
        heap.large(5, 0, 33);
        Checks.due("the last three", heap.region(5), 9);
        heap.large(1, 0, 16);
        Checks.due("the one that is left", heap.region(1), 0);
        Checks.due("kinds", Checks.kinds(heap), "444544554455");
        Checks.due("count(1): the one asked for", heap.count(1), 1);
    }

    private static void largeAfterAFullCollection() {
        Checks.sentence("If there are none, there is a full collection, and that is tried again");
        RegionHeap heap = Heaps.walled(2);
        heap.make(1, 3, 3);
        heap.make(1, 3, 3);
        heap.make(1, 0, 0);
        Checks.due("kinds", Checks.kinds(heap), "444444444411");
        Checks.due("one region", heap.large(2, 0, 16), 14);
        Checks.due("kinds then", Checks.kinds(heap), "444444444434");
        Checks.due("counts", heap.count(0) + " " + heap.count(1), "0 1");
        heap.hold(0, -1);
        Checks.due("three regions", heap.large(3, 0, 40), 15);
        Checks.due("place", Checks.place(heap, 3), "1+0");
        Checks.due("kinds at last", Checks.kinds(heap), "345500000004");
        Checks.due("counts at last", heap.count(0) + " " + heap.count(1), "0 2");
    }

    private static void largeNothingMade() {
        Checks.sentence("if there are none still, nothing is made");
        RegionHeap heap = Heaps.walled(1);
        heap.make(1, 0, 1);
        heap.make(1, 0, 0);
        Checks.due("for a root that holds one", heap.large(1, 0, 9), -2);
        Checks.due("the full collection stays", heap.kind(11) + " " + heap.used(11) + " " + heap.live(11), "3 2 2");
        Checks.due("root 1 holds what it held", heap.serial(1) + " at " + Checks.place(heap, 1), "13 at 11+0");
        Checks.due("for a root that holds null", heap.large(2, 3, 40), -2);
        Checks.due("root 2 holds null", heap.serial(2), 0);
        Checks.due("counts", heap.count(0) + " " + heap.count(1) + " " + heap.count(3), "0 2 13");
        heap.make(2, 0, 0);
        Checks.due("there is no current region", heap.count(0) + " " + Checks.place(heap, 2), "1 11+2");
    }

    private static void largeNeedsThemSideBySide() {
        Checks.sentence("the least regions, side by side, that are FREE and as many as it needs");
        RegionHeap heap = new RegionHeap();
        for (int i = 0; i < 6; i++) {
            heap.large(1, 1, 16);
            heap.link(1, 0, 0);
            heap.hold(0, 1);
            heap.large(2, 0, 16);
        }
        heap.hold(2, -1);
        heap.full();
        Checks.due("every second one is FREE", Checks.kinds(heap), "404040404040");
        Checks.due("two regions", heap.large(2, 0, 17), -2);
        Checks.due("one region", heap.large(2, 0, 9), 13);
        Checks.due("the least", heap.region(2), 1);
    }
}
