/** "Terms", A COLLECTION with a budget: each sentence that names an edge or an order. */
public final class TermsCollectionTest {
    public static void main(String[] args) {
        whichRegionsAreCollected();
        rootsFromZeroUp();
        rootsThatHoldWhatIsNotCollected();
        byRegionThenOffsetThenField();
        reachedOrNot();
        copiedOnesInTheOrderFound();
        eachOnce();
        kindsOfCopies();
        roomBehindTheLast();
        notBehindWhatWasThereBefore();
        startOfTheLeastFree();
        startOfARegionCopiedToBefore();
        rootsAndFieldsHoldTheCopy();
        whatIsSoInTheEnd();
        nothingToCopy();
        justEnoughFreeRegions();
        oneFreeRegionTooFew();
        noneFreeForAFieldOfOneThatStays();
        noneFreeForAFieldOfACopy();
        aRegionCollectedIsNotFreeYet();
        Checks.finish();
    }

    private static void whichRegionsAreCollected() {
        Checks.sentence("the regions COLLECTED are all EDEN and SURVIVOR ones and the OLD ones that are CHOSEN for the budget");
        RegionHeap heap = new RegionHeap();
        heap.make(0, 0, 0);
        heap.make(0, 3, 3);
        heap.full();
        heap.make(1, 3, 3);
        heap.make(1, 3, 3);
        heap.make(1, 3, 3);
        heap.collect(0);
        heap.make(2, 3, 3);
        heap.make(2, 3, 3);
        heap.make(2, 3, 3);
        heap.large(3, 0, 9);
        for (int root = 0; root < 4; root++) {
            heap.hold(root, -1);
        }
        Checks.due("kinds", Checks.kinds(heap), "311240000000");
        Checks.due("mark()", heap.mark(), 0);
        Checks.due("collect(0)", heap.collect(0), 0);
        Checks.due("all EDEN and SURVIVOR", Checks.kinds(heap), "300040000000");
        Checks.due("collect(1)", heap.collect(1), 0);
        Checks.due("OLD too, but not LARGE", Checks.kinds(heap), "000040000000");
    }

    private static void rootsFromZeroUp() {
        Checks.sentence("for the roots from 0 up, the object that the root holds, if it is in a region collected");
        RegionHeap heap = new RegionHeap();
        for (int root = 5; root >= 0; root--) {
            heap.make(root, 0, 0);
        }
        Checks.due("collect(0)", heap.collect(0), 6);
        for (int root = 0; root < 6; root++) {
            Checks.due("place of root " + root, Checks.place(heap, root), "1+" + 2 * root);
            Checks.due("serial of root " + root, heap.serial(root), 6 - root);
        }
    }

    private static void rootsThatHoldWhatIsNotCollected() {
        Checks.sentence("the object that the root holds, if it is in a region collected");
        RegionHeap heap = new RegionHeap();
        heap.make(0, 0, 0);
        heap.full();
        heap.large(1, 0, 9);
        heap.make(3, 0, 0);
        Checks.due("collect(0)", heap.collect(0), 1);
        Checks.due("in OLD, not chosen", Checks.place(heap, 0), "0+0");
        Checks.due("in LARGE", Checks.place(heap, 1), "1+0");
        Checks.due("in EDEN", Checks.place(heap, 3), "3+0");
        Checks.due("root 2 holds null", heap.serial(2), 0);
        Checks.due("count(2)", heap.count(2), 2);
    }

    private static void byRegionThenOffsetThenField() {
        Checks.sentence("then, for all objects in regions that are not collected (reached or not), by region and then by offset,"
            + " what their fields hold, from the first field on, if that is in a region collected");
        RegionHeap heap = new RegionHeap();
        for (int root = 0; root < 4; root++) {
            heap.make(root, 3, 3);
        }
        heap.full();
        int[] owners = {3, 2, 2, 1, 0};
        int[] fields = {0, 2, 0, 1, 2};
        for (int i = 0; i < 5; i++) {
            heap.make(4, 0, 0);
            heap.link(owners[i], fields[i], 4);
        }
        heap.hold(4, -1);
        heap.make(5, 0, 3);
        heap.link(0, 0, 1);
        Checks.due("collect(0)", heap.collect(0), 6);
        Checks.due("root 5's first", Checks.place(heap, 5), "3+0");
        int[] offsets = {13, 11, 9, 7, 5};
        for (int i = 0; i < 5; i++) {
            heap.load(4, owners[i], fields[i]);
            Checks.due("field " + fields[i] + " of root " + owners[i], Checks.place(heap, 4), "3+" + offsets[i]);
            Checks.due("its serial", heap.serial(4), 5 + i);
        }
        heap.load(4, 0, 0);
        Checks.due("what is not in a region collected", Checks.place(heap, 4), "0+8");
    }

    private static void reachedOrNot() {
        Checks.sentence("for all objects in regions that are not collected (reached or not)");
        RegionHeap heap = new RegionHeap();
        heap.make(0, 1, 0);
        heap.full();
        heap.large(1, 1, 17);
        heap.make(2, 0, 0);
        heap.link(0, 0, 2);
        heap.make(2, 0, 1);
        heap.link(1, 0, 2);
        for (int root = 0; root < 3; root++) {
            heap.hold(root, -1);
        }
        Checks.due("mark()", heap.mark(), 0);
        Checks.due("collect(0), held by an OLD and a LARGE one not reached", heap.collect(0), 2);
        Checks.due("kinds", Checks.kinds(heap), "345020000000");
        Checks.due("used(4)", heap.used(4), 5);
        Checks.due("full()", heap.full(), 0);
    }

    private static void copiedOnesInTheOrderFound() {
        Checks.sentence("then, for the copied objects in the order in which they were found (those found now too), what their"
            + " fields hold, likewise");
        RegionHeap heap = new RegionHeap();
        heap.make(0, 2, 0);
        heap.make(1, 1, 0);
        heap.link(0, 0, 1);
        heap.make(2, 1, 0);
        heap.link(0, 1, 2);
        heap.make(3, 0, 0);
        heap.link(2, 0, 3);
        heap.make(3, 0, 0);
        heap.link(1, 0, 3);
        for (int root = 1; root < 4; root++) {
            heap.hold(root, -1);
        }
        Checks.due("collect(0)", heap.collect(0), 5);
        heap.load(1, 0, 0);
        heap.load(2, 0, 1);
        heap.load(3, 1, 0);
        heap.load(4, 2, 0);
        String places = "";
        String serials = "";
        for (int root = 0; root < 5; root++) {
            places += Checks.place(heap, root) + " ";
            serials += heap.serial(root) + " ";
        }
        Checks.due("places: fields of the first before fields of its fields", places, "1+0 1+4 1+7 1+10 1+12 ");
        Checks.due("serials", serials, "1 2 3 5 4 ");
    }

    private static void eachOnce() {
        Checks.sentence("The objects to be copied are found in this order, each once");
        RegionHeap heap = new RegionHeap();
        heap.large(5, 2, 9);
        heap.make(0, 3, 0);
        heap.hold(1, 0);
        for (int field = 0; field < 3; field++) {
            heap.link(0, field, 0);
        }
        heap.link(5, 0, 0);
        heap.link(5, 1, 0);
        Checks.due("collect(0)", heap.collect(0), 1);
        Checks.due("used(2)", heap.used(2), 5);
        Checks.due("count(2)", heap.count(2), 5);
        Checks.due("incoming(2), from the large one", heap.incoming(2), 2);
    }

    private static void kindsOfCopies() {
        Checks.sentence("those from EDEN regions to SURVIVOR, the others to OLD");
        RegionHeap heap = new RegionHeap();
        heap.make(0, 0, 0);
        heap.make(1, 0, 0);
        heap.full();
        heap.hold(0, -1);
        heap.make(2, 0, 1);
        heap.collect(0);
        heap.make(3, 0, 2);
        heap.mark();
        Checks.due("kinds", Checks.kinds(heap), "312000000000");
        Checks.due("chosen(3)", heap.chosen(3), 1);
        Checks.due("collect(3)", heap.collect(3), 3);
        Checks.due("from OLD", Checks.place(heap, 1), "3+0");
        Checks.due("from SURVIVOR", Checks.place(heap, 2), "3+2");
        Checks.due("from EDEN", Checks.place(heap, 3), "4+0");
        Checks.due("kinds then", Checks.kinds(heap), "000320000000");
    }

    private static void roomBehindTheLast() {
        Checks.sentence("behind the one copied last to that kind in this collection, if it has room in that region");
        RegionHeap heap = new RegionHeap();
        heap.make(0, 3, 3);
        heap.make(1, 3, 3);
        heap.make(2, 3, 2);
        heap.make(3, 3, 3);
        heap.make(4, 0, 0);
        Checks.due("collect(0)", heap.collect(0), 5);
        Checks.due("8 words of 8", Checks.place(heap, 1), "3+8");
        Checks.due("7 words of 0", Checks.place(heap, 2), "4+0");
        Checks.due("8 words of 9", Checks.place(heap, 3), "4+7");
        Checks.due("2 words of 1", Checks.place(heap, 4), "5+0");
    }

    private static void notBehindWhatWasThereBefore() {
        Checks.sentence("behind the one copied last to that kind in this collection");
        RegionHeap heap = new RegionHeap();
        heap.make(0, 0, 0);
        heap.collect(0);
        heap.collect(0);
        Checks.due("OLD, with room", heap.kind(0) + " " + heap.used(0), "3 2");
        heap.make(1, 0, 0);
        heap.collect(0);
        heap.collect(0);
        Checks.due("to a region of its own", Checks.place(heap, 1), "1+0");
        Checks.due("kinds", Checks.kinds(heap), "330000000000");
    }

    private static void startOfTheLeastFree() {
        Checks.sentence("otherwise to the start of the least region that is FREE, which becomes of that kind");
        RegionHeap heap = new RegionHeap();
        heap.make(0, 0, 0);
        heap.large(1, 0, 16);
        heap.collect(0);
        Checks.due("kinds", Checks.kinds(heap), "042000000000");
        heap.make(2, 0, 0);
        Checks.due("collect(0)", heap.collect(0), 2);
        Checks.due("from SURVIVOR, found first", Checks.place(heap, 0), "3+0");
        Checks.due("from EDEN", Checks.place(heap, 2), "4+0");
        Checks.due("kinds then", Checks.kinds(heap), "040320000000");
        Checks.due("collect(0) again", heap.collect(0), 1);
        Checks.due("the first region is FREE", Checks.kinds(heap), "340300000000");
    }

    private static void startOfARegionCopiedToBefore() {
        Checks.sentence("otherwise to the start of the least region that is FREE");
        RegionHeap heap = new RegionHeap();
        heap.make(0, 3, 3);
        heap.collect(0);
        Checks.due("copied to region 1", Checks.place(heap, 0), "1+0");
        heap.hold(0, -1);
        heap.collect(0);
        heap.make(1, 3, 3);
        heap.make(2, 3, 3);
        heap.collect(0);
        Checks.due("its 16 words are FREE again", Checks.place(heap, 1) + " " + Checks.place(heap, 2), "1+0 1+8");
    }

    private static void rootsAndFieldsHoldTheCopy() {
        Checks.sentence("In the end roots and fields that held a copied object hold the copy, which has its serial number");
        RegionHeap heap = new RegionHeap();
        heap.make(0, 2, 0);
        heap.full();
        heap.large(1, 1, 9);
        heap.make(2, 1, 0);
        heap.make(3, 0, 3);
        heap.hold(5, 3);
        heap.link(0, 1, 3);
        heap.link(1, 0, 3);
        heap.link(2, 0, 3);
        heap.collect(0);
        Checks.due("root 3", heap.serial(3) + " at " + Checks.place(heap, 3) + " size " + heap.size(3), "4 at 3+3 size 5");
        Checks.due("root 5", heap.serial(5) + " at " + Checks.place(heap, 5), "4 at 3+3");
        int[] fields = {1, 0, 0};
        for (int root = 0; root < 3; root++) {
            heap.load(4, root, fields[root]);
            Checks.due("field of root " + root, heap.serial(4) + " at " + Checks.place(heap, 4), "4 at 3+3");
        }
        heap.load(4, 0, 0);
        Checks.due("a field that held null", heap.serial(4), 0);
    }

    private static void whatIsSoInTheEnd() {
        Checks.sentence("the regions collected are FREE; there is no current region; the live counts of the regions to which"
            + " something was copied are not known");
        RegionHeap heap = new RegionHeap();
        heap.make(0, 0, 0);
        heap.full();
        heap.make(1, 0, 0);
        heap.mark();
        Checks.due("live counts", heap.live(0) + " " + heap.live(1), "2 2");
        heap.collect(0);
        Checks.due("kinds", Checks.kinds(heap), "302000000000");
        Checks.due("live counts then", heap.live(0) + " " + heap.live(1) + " " + heap.live(2), "2 -1 -1");
        Checks.due("used(1)", heap.used(1), 0);
        heap.large(2, 0, 9);
        Checks.due("the large one takes what was the current region", heap.region(2), 1);
        heap.make(3, 0, 0);
        Checks.due("no small one goes on there", Checks.place(heap, 3), "3+0");
    }

    private static void nothingToCopy() {
        Checks.sentence("If a FREE region is needed and there is none");
        RegionHeap heap = Heaps.walled(0);
        Checks.due("collect(0), none FREE and none needed", heap.collect(0), 0);
        Checks.due("counts", heap.count(0) + " " + heap.count(1), "1 0");
        RegionHeap eden = Heaps.walled(1);
        eden.make(1, 0, 0);
        eden.hold(1, -1);
        Checks.due("collect(0) of what is not reached", eden.collect(0), 0);
        Checks.due("counts", eden.count(0) + " " + eden.count(1), "1 0");
        Checks.due("kind(11)", eden.kind(11), 0);
        RegionHeap empty = new RegionHeap();
        Checks.due("collect(0) of an empty heap", empty.collect(0), 0);
    }

    private static void justEnoughFreeRegions() {
        Checks.sentence("If a FREE region is needed and there is none");
        RegionHeap one = Heaps.walled(2);
        one.make(1, 3, 3);
        one.make(2, 3, 3);
        Checks.due("collect(0), 16 words and one FREE", one.collect(0), 2);
        Checks.due("kinds", Checks.kinds(one), "444444444402");
        RegionHeap two = Heaps.walled(4);
        two.make(1, 0, 0);
        two.collect(0);
        two.make(2, 0, 0);
        Checks.due("kinds", Checks.kinds(two), "444444441200");
        Checks.due("collect(0), two kinds and two FREE", two.collect(0), 2);
        Checks.due("kinds then", Checks.kinds(two), "444444440032");
        Checks.due("count(1)", one.count(1) + two.count(1), 0);
    }

    private static void oneFreeRegionTooFew() {
        Checks.sentence("nothing of all this is done, and a FULL COLLECTION is made instead");
        RegionHeap heap = Heaps.walled(3);
        heap.make(1, 0, 1);
        heap.collect(0);
        heap.make(2, 0, 0);
        Checks.due("kinds", Checks.kinds(heap), "444444444120");
        Checks.due("collect(0), two kinds and one FREE", heap.collect(0), -2);
        Checks.due("kinds then", Checks.kinds(heap), "444444444300");
        Checks.due("places", Checks.place(heap, 1) + " " + Checks.place(heap, 2), "9+2 9+0");
        Checks.due("live(9)", heap.live(9), 5);
        Checks.due("counts", heap.count(0) + " " + heap.count(1) + " " + heap.count(2), "1 1 3");
        RegionHeap words = Heaps.walled(3);
        words.make(1, 3, 3);
        words.make(2, 3, 3);
        words.make(3, 0, 0);
        Checks.due("collect(0), 18 words and one FREE", words.collect(0), -2);
        Checks.due("kinds then", Checks.kinds(words), "444444444330");
    }

    private static void noneFreeForAFieldOfOneThatStays() {
        Checks.sentence("If a FREE region is needed and there is none, nothing of all this is done");
        RegionHeap alone = Heaps.walled(1);
        alone.make(1, 0, 1);
        alone.make(1, 0, 0);
        alone.link(0, 1, 1);
        alone.hold(1, -1);
        Checks.due("collect(0), a field of a large one alone", alone.collect(0), -2);
        Checks.due("counts", alone.count(0) + " " + alone.count(1) + " " + alone.count(2), "0 1 0");
        alone.load(1, 0, 1);
        Checks.due("what the field holds", alone.serial(1) + " at " + Checks.place(alone, 1), "13 at 11+0");
        RegionHeap behind = Heaps.walled(3);
        behind.make(1, 3, 3);
        behind.make(2, 3, 3);
        behind.make(3, 0, 0);
        behind.link(0, 1, 3);
        behind.hold(3, -1);
        Checks.due("kinds", Checks.kinds(behind), "444444444110");
        Checks.due("collect(0), two roots have room, the field has not", behind.collect(0), -2);
        behind.load(3, 0, 1);
        Checks.due("places", Checks.place(behind, 1) + " " + Checks.place(behind, 2) + " " + Checks.place(behind, 3),
            "9+0 9+8 10+0");
        Checks.due("kinds then", Checks.kinds(behind), "444444444330");
        Checks.due("counts", behind.count(0) + " " + behind.count(1) + " " + behind.count(2), "0 1 0");
    }

    private static void noneFreeForAFieldOfACopy() {
        Checks.sentence("If a FREE region is needed and there is none, nothing of all this is done");
        RegionHeap heap = Heaps.walled(3);
        heap.make(1, 3, 3);
        heap.make(2, 3, 3);
        heap.link(1, 1, 2);
        heap.make(3, 0, 0);
        heap.link(2, 2, 3);
        heap.hold(2, -1);
        heap.hold(3, -1);
        Checks.due("kinds", Checks.kinds(heap), "444444444110");
        Checks.due("collect(0), 16 words have room and 2 more have not", heap.collect(0), -2);
        heap.load(2, 1, 1);
        heap.load(3, 2, 2);
        Checks.due("places", Checks.place(heap, 1) + " " + Checks.place(heap, 2) + " " + Checks.place(heap, 3),
            "9+0 9+8 10+0");
        Checks.due("kinds then", Checks.kinds(heap), "444444444330");
        Checks.due("counts", heap.count(0) + " " + heap.count(1) + " " + heap.count(2), "0 1 0");
    }

    private static void aRegionCollectedIsNotFreeYet() {
        Checks.sentence("the regions collected are FREE");
        RegionHeap heap = Heaps.walled(1);
        heap.make(1, 3, 3);
        heap.make(2, 3, 3);
        heap.full();
        heap.hold(1, -1);
        heap.mark();
        Checks.due("collect(8), cost is 9", heap.collect(8), 0);
        Checks.due("place", Checks.place(heap, 2), "11+8");
        Checks.due("collect(9)", heap.collect(9), -2);
        Checks.due("place then", Checks.place(heap, 2), "11+0");
        Checks.due("counts", heap.count(0) + " " + heap.count(1), "1 2");
    }
}
