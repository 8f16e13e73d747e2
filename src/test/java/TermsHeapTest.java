/** "Terms", what the heap, its objects and its roots are: each sentence that names an edge. */
public final class TermsHeapTest {
    public static void main(String[] args) {
        twelveRegions();
        sixteenWords();
        kindsOfRegions();
        oneBehindTheOther();
        fieldsOfAnObject();
        numbersOfObjects();
        sizesOfSmallOnes();
        sizesOfLargeOnes();
        largeOnesLieAlone();
        regionsOfLargeOnes();
        largeOnesDoNotGoRound();
        sixRoots();
        reached();
        liveKnownOrNot();
        Checks.finish();
    }

    private static void twelveRegions() {
        Checks.sentence("THE HEAP has 12 REGIONS, 0 .. 11");
        RegionHeap heap = Heaps.walled(0);
        Checks.due("kinds", Checks.kinds(heap), "444444444444");
        Checks.due("kind(-1)", heap.kind(-1), -1);
        Checks.due("kind(12)", heap.kind(12), -1);
        Checks.due("a thirteenth", heap.large(2, 0, 16), -2);
        Checks.due("the twelfth", Checks.place(heap, 0), "11+0");
    }

    private static void sixteenWords() {
        Checks.sentence("of 16 words each");
        RegionHeap heap = new RegionHeap();
        for (int i = 0; i < 8; i++) {
            heap.make(0, 0, 0);
            Checks.due("place of object " + (i + 1), Checks.place(heap, 0), "0+" + 2 * i);
        }
        Checks.due("used(0)", heap.used(0), 16);
        heap.make(0, 0, 0);
        Checks.due("place of the ninth", Checks.place(heap, 0), "1+0");
        RegionHeap full = new RegionHeap();
        int made = 0;
        while (made < 30 && Heaps.chainEight(full) > 0) {
            made++;
        }
        Checks.due("objects of 8 words that the heap takes", made, 24);
        Checks.due("words used together", Heaps.usedTogether(full), 12 * 16);
    }

    private static void kindsOfRegions() {
        Checks.sentence("A region is 0 FREE (at first), 1 EDEN, 2 SURVIVOR, 3 OLD, 4 LARGE, or 5 the REST of a large one.");
        RegionHeap heap = new RegionHeap();
        Checks.due("kinds at first", Checks.kinds(heap), "000000000000");
        heap.make(0, 0, 0);
        Checks.due("kinds, one made", Checks.kinds(heap), "100000000000");
        heap.collect(0);
        Checks.due("kinds, copied", Checks.kinds(heap), "020000000000");
        heap.collect(0);
        Checks.due("kinds, copied again", Checks.kinds(heap), "300000000000");
        heap.make(1, 0, 0);
        heap.collect(0);
        heap.make(2, 0, 0);
        heap.large(3, 0, 17);
        Checks.due("all six kinds", Checks.kinds(heap), "312450000000");
    }

    private static void oneBehindTheOther() {
        Checks.sentence("Objects lie in a region one behind the other from its first word on, each with its OFFSET there;"
            + " a region has USED so many words.");
        RegionHeap heap = new RegionHeap();
        int[] sizes = {2, 3, 4, 5};
        int words = 0;
        for (int root = 0; root < 4; root++) {
            heap.make(root, 0, sizes[root] - 2);
            Checks.due("place of root " + root, Checks.place(heap, root), "0+" + words);
            words += sizes[root];
            Checks.due("used(0)", heap.used(0), words);
        }
        heap.hold(0, -1);
        Checks.due("used(0), the first not held any more", heap.used(0), 14);
        heap.make(4, 0, 0);
        Checks.due("place behind what is used", Checks.place(heap, 4), "0+14");
    }

    private static void fieldsOfAnObject() {
        Checks.sentence("An OBJECT has 0 to 3 FIELDS, each null or an object (null at first)");
        for (int fields = 0; fields <= 3; fields++) {
            RegionHeap heap = new RegionHeap();
            heap.make(0, fields, 0);
            heap.large(1, fields, 9);
            for (int root = 0; root < 2; root++) {
                for (int field = -1; field <= 4; field++) {
                    heap.hold(2, 0);
                    boolean has = field >= 0 && field < fields;
                    String name = "field " + field + " of " + fields;
                    Checks.due("load of " + name, heap.load(2, root, field), has);
                    Checks.due("what root 2 holds then", heap.serial(2), has ? 0 : 1);
                    Checks.due("link of " + name, heap.link(root, field, root), has);
                    Checks.due("load of " + name + " again", heap.load(2, root, field), has);
                    Checks.due("what root 2 holds then", heap.serial(2), has ? root + 1 : 1);
                }
            }
        }
    }

    private static void numbersOfObjects() {
        Checks.sentence("objects are numbered 1, 2, .. as they are made");
        RegionHeap heap = Heaps.walled(1);
        Checks.due("the first small one, behind 11 large ones", heap.make(1, 3, 3), 12);
        Checks.due("a refused one", heap.make(1, 4, 0), -1);
        Checks.due("a refused large one", heap.large(1, 0, 41), -1);
        Checks.due("a large one for which there is no place", heap.large(2, 0, 9), -2);
        Checks.due("the next", heap.make(2, 3, 3), 13);
        Checks.due("a small one for which there is no place", heap.make(3, 0, 0), -2);
        heap.hold(1, -1);
        heap.full();
        Checks.due("numbers of those gone are not given again", heap.make(1, 0, 0), 14);
        Checks.due("the other one's number stays", heap.serial(2), 13);
    }

    private static void sizesOfSmallOnes() {
        Checks.sentence("SMALL objects have size 2 + fields + extra, with extra from 0 to 3.");
        for (int fields = 0; fields <= 3; fields++) {
            for (int extra = -1; extra <= 4; extra++) {
                RegionHeap heap = new RegionHeap();
                boolean can = extra >= 0 && extra <= 3;
                String call = "make(0, " + fields + ", " + extra + ")";
                Checks.due(call, heap.make(0, fields, extra), can ? 1 : -1);
                Checks.due("size after " + call, heap.size(0), can ? 2 + fields + extra : -1);
                Checks.due("used(0) after " + call, heap.used(0), can ? 2 + fields + extra : 0);
            }
        }
    }

    private static void sizesOfLargeOnes() {
        Checks.sentence("Large ones have size 9 .. 40");
        for (int size = 7; size <= 42; size++) {
            RegionHeap heap = new RegionHeap();
            boolean can = size >= 9 && size <= 40;
            Checks.due("large(0, 0, " + size + ")", heap.large(0, 0, size), can ? 1 : -1);
            Checks.due("size(0)", heap.size(0), can ? size : -1);
            Checks.due("kind(0)", heap.kind(0), can ? 4 : 0);
        }
    }

    private static void largeOnesLieAlone() {
        Checks.sentence("and lie alone from the first word of a LARGE region on");
        RegionHeap heap = new RegionHeap();
        heap.large(0, 0, 9);
        heap.make(1, 0, 0);
        Checks.due("a small one, for which region 0 has words", Checks.place(heap, 1), "1+0");
        heap.large(2, 0, 17);
        heap.large(3, 0, 9);
        Checks.due("places of large ones", Checks.place(heap, 0) + " " + Checks.place(heap, 2) + " "
            + Checks.place(heap, 3), "0+0 2+0 4+0");
        heap.collect(0);
        Checks.due("a copy", Checks.place(heap, 1), "5+0");
        heap.full();
        Checks.due("pushed together", Checks.place(heap, 1), "1+0");
        Checks.due("used", heap.used(0) + " " + heap.used(2) + " " + heap.used(3) + " " + heap.used(4), "9 16 1 9");
    }

    private static void regionsOfLargeOnes() {
        Checks.sentence("and go on through as many regions of kind REST directly behind it as they need;"
            + " such a region has used 16 words, the last one what is left.");
        for (int size = 9; size <= 40; size++) {
            RegionHeap heap = new RegionHeap();
            heap.make(0, 0, 0);
            heap.large(1, 0, size);
            int left = size;
            for (int region = 1; region < 12; region++) {
                int kind = region == 1 ? 4 : left > 0 ? 5 : 0;
                String name = "(" + region + ") with size " + size;
                Checks.due("kind" + name, heap.kind(region), kind);
                Checks.due("used" + name, heap.used(region), Math.max(0, Math.min(16, left)));
                left -= 16;
            }
        }
    }

    private static void largeOnesDoNotGoRound() {
        Checks.sentence("regions of kind REST directly behind it");
        RegionHeap heap = new RegionHeap();
        heap.large(0, 0, 16);
        heap.large(1, 0, 40);
        heap.large(2, 0, 40);
        heap.large(3, 0, 40);
        heap.large(4, 0, 16);
        heap.hold(0, -1);
        heap.full();
        Checks.due("kinds, only the first and the last are FREE", Checks.kinds(heap), "045545545540");
        Checks.due("two regions", heap.large(0, 0, 17), -2);
        Checks.due("kinds", Checks.kinds(heap), "045545545540");
        Checks.due("one region", heap.large(0, 0, 16), 6);
        Checks.due("the last region", heap.large(5, 0, 16), 7);
        Checks.due("kinds then", Checks.kinds(heap), "445545545544");
    }

    private static void sixRoots() {
        Checks.sentence("ROOTS 0 .. 5 each hold an object or null (at first).");
        RegionHeap heap = new RegionHeap();
        for (int root = -1; root <= 6; root++) {
            boolean is = root >= 0 && root <= 5;
            Checks.due("serial(" + root + ") at first", heap.serial(root), is ? 0 : -1);
        }
        for (int root = -1; root <= 6; root++) {
            boolean is = root >= 0 && root <= 5;
            Checks.due("make(" + root + ", 0, 0)", heap.make(root, 0, 0), is ? root + 1 : -1);
        }
        for (int root = 0; root <= 5; root++) {
            Checks.due("serial(" + root + ")", heap.serial(root), root + 1);
        }
    }

    private static void reached() {
        Checks.sentence("An object is REACHED if a root holds it or a field of a reached object does.");
        RegionHeap heap = new RegionHeap();
        heap.make(0, 1, 0);
        heap.large(1, 1, 20);
        heap.make(2, 1, 1);
        heap.link(0, 0, 1);
        heap.link(1, 0, 2);
        heap.link(2, 0, 2);
        Checks.due("held by roots", heap.mark(), 27);
        heap.hold(1, -1);
        heap.hold(2, -1);
        Checks.due("held by fields", heap.mark(), 27);
        heap.load(3, 0, 0);
        heap.link(0, 0, -1);
        Checks.due("held by another root", heap.mark(), 27);
        heap.hold(3, -1);
        Checks.due("held by fields of objects not reached, or its own, alone", heap.mark(), 3);
        heap.hold(0, -1);
        Checks.due("held by nothing", heap.mark(), 0);
    }

    private static void liveKnownOrNot() {
        Checks.sentence("A region may have a LIVE count, which is known or not.");
        RegionHeap heap = new RegionHeap();
        heap.make(0, 0, 0);
        heap.hold(0, -1);
        Checks.due("not known", heap.live(0), -1);
        heap.mark();
        Checks.due("known to be 0", heap.live(0), 0);
    }
}
