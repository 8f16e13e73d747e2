/** Promises 1 to 19: each answer that a promise names, at the last number that has it and the first that has not. */
public final class PromiseAnswersTest {
    private static final int LEAST = Integer.MIN_VALUE;
    private static final int GREATEST = Integer.MAX_VALUE;

    public static void main(String[] args) {
        newObject();
        make();
        makeNothing();
        large();
        largeNothing();
        link();
        load();
        hold();
        collect();
        full();
        mark();
        chosen();
        serial();
        region();
        offset();
        size();
        kind();
        used();
        live();
        incoming();
        incomingOfLargeOnes();
        count();
        Checks.finish();
    }

    private static void newObject() {
        Checks.sentence("All regions FREE, all roots null.");
        RegionHeap heap = new RegionHeap();
        for (int region = 0; region <= 11; region++) {
            Checks.due("kind(" + region + ")", heap.kind(region), 0);
        }
        for (int root = 0; root <= 5; root++) {
            Checks.due("serial(" + root + ")", heap.serial(root), 0);
        }
    }

    private static void make() {
        Checks.sentence("Makes a small object, which the root holds then: its serial number; -1 when there is no such root,"
            + " fields or extra is not 0 .. 3");
        int[][] calls = {
            {0, 0, 0}, {5, 0, 0}, {0, 3, 0}, {0, 0, 3}, {5, 3, 3},
            {-1, 0, 0}, {6, 0, 0}, {0, -1, 0}, {0, 4, 0}, {0, 0, -1}, {0, 0, 4},
            {LEAST, 0, 0}, {GREATEST, 0, 0}, {0, LEAST, 0}, {0, GREATEST, 0}, {0, 0, LEAST}, {0, 0, GREATEST}};
        for (int i = 0; i < calls.length; i++) {
            RegionHeap heap = new RegionHeap();
            int[] c = calls[i];
            String name = "make(" + c[0] + ", " + c[1] + ", " + c[2] + ")";
            Checks.due(name, heap.make(c[0], c[1], c[2]), i < 5 ? 1 : -1);
            Checks.due("count(3) after " + name, heap.count(3), i < 5 ? 1 : 0);
            Checks.due("what root 0 or 5 holds after " + name, heap.serial(0) + heap.serial(5), i < 5 ? 1 : 0);
        }
        RegionHeap heap = new RegionHeap();
        heap.make(2, 0, 0);
        Checks.due("make for a root that holds one", heap.make(2, 0, 0), 2);
        Checks.due("the root holds the new one", heap.serial(2), 2);
    }

    private static void makeNothing() {
        Checks.sentence("-2 when nothing was made (the root is as it was)");
        RegionHeap heap = Heaps.walled(0);
        Checks.due("make for a root that holds null", heap.make(5, 0, 0), -2);
        Checks.due("it holds null", heap.serial(5), 0);
        Checks.due("make for a root that holds one", heap.make(0, 3, 3), -2);
        Checks.due("it holds that", heap.serial(0), 12);
        Checks.due("make that is refused", heap.make(6, 0, 0), -1);
        Checks.due("counts", heap.count(0) + " " + heap.count(1) + " " + heap.count(3), "2 2 12");
    }

    private static void large() {
        Checks.sentence("Makes a large object, which the root holds then: its serial number; -1 when there is no such root,"
            + " fields is not 0 .. 3 or size not 9 .. 40");
        int[][] calls = {
            {0, 0, 9}, {5, 0, 9}, {0, 3, 9}, {0, 0, 40}, {5, 3, 40},
            {-1, 0, 9}, {6, 0, 9}, {0, -1, 9}, {0, 4, 9}, {0, 0, 8}, {0, 0, 41},
            {LEAST, 0, 9}, {GREATEST, 0, 9}, {0, LEAST, 9}, {0, GREATEST, 9}, {0, 0, LEAST}, {0, 0, GREATEST}};
        for (int i = 0; i < calls.length; i++) {
            RegionHeap heap = new RegionHeap();
            int[] c = calls[i];
            String name = "large(" + c[0] + ", " + c[1] + ", " + c[2] + ")";
            Checks.due(name, heap.large(c[0], c[1], c[2]), i < 5 ? 1 : -1);
            Checks.due("count(3) after " + name, heap.count(3), i < 5 ? 1 : 0);
            Checks.due("what root 0 or 5 holds after " + name, heap.serial(0) + heap.serial(5), i < 5 ? 1 : 0);
        }
        RegionHeap heap = new RegionHeap();
        heap.make(2, 0, 0);
        Checks.due("large for a root that holds one", heap.large(2, 0, 9), 2);
        Checks.due("the root holds the new one", heap.serial(2), 2);
    }

    private static void largeNothing() {
        Checks.sentence("-2 when nothing was made (the root is as it was)");
        RegionHeap heap = Heaps.walled(2);
        Checks.due("three regions of two, root null", heap.large(5, 0, 33), -2);
        Checks.due("it holds null", heap.serial(5), 0);
        Checks.due("three regions of two, root with one", heap.large(0, 0, 40), -2);
        Checks.due("it holds that", heap.serial(0), 10);
        Checks.due("large that is refused", heap.large(0, 0, 41), -1);
        Checks.due("counts", heap.count(0) + " " + heap.count(1) + " " + heap.count(3), "0 2 10");
        Checks.due("two regions of two", heap.large(5, 0, 32), 11);
        Checks.due("it holds the new one", heap.serial(5) + " at " + Checks.place(heap, 5), "11 at 10+0");
    }

    private static void link() {
        Checks.sentence("The field (from 0) of the object that the root holds is what root to holds, or null if to is -1: true;"
            + " false when there is no such root, it holds null, its object has no such field, or to is not -1 .. 5.");
        RegionHeap heap = new RegionHeap();
        heap.make(0, 3, 0);
        heap.make(1, 0, 0);
        heap.large(5, 1, 9);
        int[][] calls = {
            {0, 0, 0}, {0, 2, 5}, {5, 0, 1}, {0, 1, -1}, {0, 1, 3},
            {-1, 0, 0}, {6, 0, 0}, {2, 0, 0}, {0, -1, 0}, {0, 3, 0}, {1, 0, 0}, {5, 1, 0}, {0, 0, -2}, {0, 0, 6},
            {LEAST, 0, 0}, {GREATEST, 0, 0}, {0, LEAST, 0}, {0, GREATEST, 0}, {0, 0, LEAST}, {0, 0, GREATEST}};
        for (int i = 0; i < calls.length; i++) {
            int[] c = calls[i];
            Checks.due("link(" + c[0] + ", " + c[1] + ", " + c[2] + ")", heap.link(c[0], c[1], c[2]), i < 5);
        }
        int[][] fields = {{0, 0, 1}, {0, 1, 0}, {0, 2, 3}, {5, 0, 2}};
        for (int[] f : fields) {
            heap.load(4, f[0], f[1]);
            Checks.due("field " + f[1] + " of root " + f[0], heap.serial(4), f[2]);
        }
        heap.link(0, 0, -1);
        heap.load(4, 0, 0);
        Checks.due("a field that held one, linked to null", heap.serial(4), 0);
        Checks.due("the root holds its own still", heap.serial(0), 1);
    }

    private static void load() {
        Checks.sentence("Root to holds what the field of the object holds that the root holds: true; false when there is no root"
            + " to or no such root, the root holds null, or its object has no such field.");
        RegionHeap heap = new RegionHeap();
        heap.make(0, 3, 0);
        heap.make(1, 0, 0);
        heap.large(5, 1, 9);
        heap.link(0, 2, 1);
        heap.link(5, 0, 0);
        int[][] calls = {
            {2, 0, 2}, {3, 5, 0}, {2, 0, 0},
            {-1, 0, 2}, {6, 0, 2}, {2, -1, 0}, {2, 6, 0}, {2, 4, 0}, {2, 0, -1}, {2, 0, 3}, {2, 1, 0}, {2, 5, 1},
            {LEAST, 0, 2}, {GREATEST, 0, 2}, {2, LEAST, 0}, {2, GREATEST, 0}, {2, 0, LEAST}, {2, 0, GREATEST}};
        int[] holds = {2, 1, 0};
        for (int i = 0; i < calls.length; i++) {
            int[] c = calls[i];
            String name = "load(" + c[0] + ", " + c[1] + ", " + c[2] + ")";
            Checks.due(name, heap.load(c[0], c[1], c[2]), i < 3);
            if (i < 3) {
                Checks.due("serial after " + name, heap.serial(c[0]), holds[i]);
            }
        }
        Checks.due("load(0, 0, 2), the root itself", heap.load(0, 0, 2), true);
        Checks.due("serial(0)", heap.serial(0), 2);
        Checks.due("the object keeps its field", heap.load(0, 3, 2) ? heap.serial(0) : -9, 2);
    }

    private static void hold() {
        Checks.sentence("Root to holds what the root holds, or null for root -1: true; false when there is no root to, or root is"
            + " not -1 .. 5.");
        RegionHeap heap = new RegionHeap();
        heap.make(0, 0, 0);
        heap.make(5, 0, 0);
        int[][] calls = {
            {1, 0}, {2, 5}, {5, 0}, {0, -1}, {2, 3}, {1, 1},
            {-1, 1}, {6, 1}, {1, -2}, {1, 6}, {-1, -1}, {6, -1},
            {LEAST, 1}, {GREATEST, 1}, {1, LEAST}, {1, GREATEST}};
        int[] holds = {1, 2, 1, 0, 0, 1};
        for (int i = 0; i < calls.length; i++) {
            int[] c = calls[i];
            String name = "hold(" + c[0] + ", " + c[1] + ")";
            Checks.due(name, heap.hold(c[0], c[1]), i < 6);
            if (i < 6) {
                Checks.due("serial after " + name, heap.serial(c[0]), holds[i]);
            }
        }
        Checks.due("serial(1) at last", heap.serial(1), 1);
    }

    private static void collect() {
        Checks.sentence("Collects with a budget: how many objects were copied; -1 when budget is below 0, -2 when a full"
            + " collection was made instead.");
        RegionHeap heap = Heaps.walled(2);
        Checks.due("collect(0), none", heap.collect(0), 0);
        heap.make(1, 3, 3);
        heap.make(2, 3, 3);
        Checks.due("collect(-1)", heap.collect(-1), -1);
        Checks.due("collect of the least int", heap.collect(LEAST), -1);
        Checks.due("counts", heap.count(0) + " " + heap.count(1), "1 0");
        Checks.due("collect(0), two", heap.collect(0), 2);
        heap.make(3, 0, 0);
        Checks.due("collect of the greatest int, no region FREE", heap.collect(GREATEST), -2);
        Checks.due("counts then", heap.count(0) + " " + heap.count(1), "2 1");
    }

    private static void full() {
        Checks.sentence("A full collection: how many objects are left.");
        RegionHeap heap = new RegionHeap();
        Checks.due("full(), none", heap.full(), 0);
        heap.make(0, 0, 0);
        heap.large(1, 0, 40);
        heap.hold(2, 1);
        Checks.due("full(), a small and a large one, held twice", heap.full(), 2);
        heap.hold(0, -1);
        Checks.due("full(), the large one", heap.full(), 1);
        heap.hold(1, -1);
        heap.hold(2, -1);
        Checks.due("full(), none left", heap.full(), 0);
    }

    private static void mark() {
        Checks.sentence("Marks: how many words the objects reached have together, large ones too.");
        RegionHeap heap = new RegionHeap();
        Checks.due("mark(), none", heap.mark(), 0);
        heap.make(0, 0, 0);
        Checks.due("mark(), the least", heap.mark(), 2);
        heap.large(1, 0, 40);
        heap.hold(2, 1);
        Checks.due("mark(), a large one too, held twice", heap.mark(), 42);
        heap.hold(0, -1);
        Checks.due("mark(), the large one", heap.mark(), 40);
        Checks.due("all 192 words", Heaps.walled(0).mark(), 192);
    }

    private static void chosen() {
        Checks.sentence("The regions that are chosen for a budget now: the sum of 2^region. 0 when budget is below 0.");
        RegionHeap heap = Heaps.walled(1);
        heap.make(1, 0, 0);
        heap.make(2, 0, 0);
        heap.full();
        heap.hold(1, -1);
        Checks.due("chosen(1000) before a mark", heap.chosen(1000), 0);
        heap.mark();
        Checks.due("chosen(-1)", heap.chosen(-1), 0);
        Checks.due("chosen of the least int", heap.chosen(LEAST), 0);
        Checks.due("chosen(0)", heap.chosen(0), 0);
        Checks.due("chosen(2)", heap.chosen(2), 0);
        Checks.due("chosen(3), the last region", heap.chosen(3), 2048);
        Checks.due("chosen of the greatest int", heap.chosen(GREATEST), 2048);
        Checks.due("it is not collected by that", Checks.place(heap, 2) + " " + heap.count(0), "11+2 0");
    }

    private static final int[] ROOTS_ASKED = {LEAST, -1, 0, 1, 4, 5, 6, GREATEST};

    /** Root 0 holds a small object, root 5 a large one, and root 4 null again. */
    private static RegionHeap forRoots() {
        RegionHeap heap = new RegionHeap();
        heap.make(4, 0, 0);
        heap.make(0, 3, 3);
        heap.large(5, 3, 40);
        heap.hold(4, -1);
        return heap;
    }

    private static void serial() {
        Checks.sentence("The serial number of the object that the root holds; 0 when it holds null, -1 when there is no such root.");
        RegionHeap heap = forRoots();
        int[] due = {-1, -1, 2, 0, 0, 3, -1, -1};
        for (int i = 0; i < due.length; i++) {
            Checks.due("serial(" + ROOTS_ASKED[i] + ")", heap.serial(ROOTS_ASKED[i]), due[i]);
        }
    }

    private static void region() {
        Checks.sentence("The region of the object that the root holds (of a large one the first); -1 when it holds null or there"
            + " is no such root.");
        RegionHeap heap = forRoots();
        int[] due = {-1, -1, 0, -1, -1, 1, -1, -1};
        for (int i = 0; i < due.length; i++) {
            Checks.due("region(" + ROOTS_ASKED[i] + ")", heap.region(ROOTS_ASKED[i]), due[i]);
        }
    }

    private static void offset() {
        Checks.sentence("The offset of the object that the root holds; -1 when it holds null or there is no such root.");
        RegionHeap heap = forRoots();
        int[] due = {-1, -1, 2, -1, -1, 0, -1, -1};
        for (int i = 0; i < due.length; i++) {
            Checks.due("offset(" + ROOTS_ASKED[i] + ")", heap.offset(ROOTS_ASKED[i]), due[i]);
        }
    }

    private static void size() {
        Checks.sentence("The size of the object that the root holds; -1 when it holds null or there is no such root.");
        RegionHeap heap = forRoots();
        int[] due = {-1, -1, 8, -1, -1, 40, -1, -1};
        for (int i = 0; i < due.length; i++) {
            Checks.due("size(" + ROOTS_ASKED[i] + ")", heap.size(ROOTS_ASKED[i]), due[i]);
        }
    }

    private static final int[] REGIONS_ASKED = {LEAST, -1, 0, 8, 9, 10, 11, 12, GREATEST};

    /** A large object of three regions lies at the end of the heap. */
    private static RegionHeap forRegions() {
        RegionHeap heap = Heaps.walled(3);
        heap.large(1, 0, 33);
        return heap;
    }

    private static void kind() {
        Checks.sentence("The kind of a region; -1 when there is none.");
        RegionHeap heap = forRegions();
        int[] due = {-1, -1, 4, 4, 4, 5, 5, -1, -1};
        for (int i = 0; i < due.length; i++) {
            Checks.due("kind(" + REGIONS_ASKED[i] + ")", heap.kind(REGIONS_ASKED[i]), due[i]);
        }
        heap.hold(1, -1);
        heap.full();
        Checks.due("FREE again", Checks.kinds(heap), "444444444000");
    }

    private static void used() {
        Checks.sentence("How many words a region has used; -1 when there is none.");
        RegionHeap heap = forRegions();
        int[] due = {-1, -1, 16, 16, 16, 16, 1, -1, -1};
        for (int i = 0; i < due.length; i++) {
            Checks.due("used(" + REGIONS_ASKED[i] + ")", heap.used(REGIONS_ASKED[i]), due[i]);
        }
        heap.hold(1, -1);
        heap.full();
        Checks.due("FREE again", heap.used(9) + " " + heap.used(10) + " " + heap.used(11), "0 0 0");
    }

    private static void live() {
        Checks.sentence("The live count of a region; -1 when it is not known or there is no such region.");
        RegionHeap heap = Heaps.walled(1);
        heap.make(1, 0, 0);
        Checks.due("live(11), not known", heap.live(11), -1);
        heap.mark();
        int[] regions = {LEAST, -1, 0, 10, 11, 12, GREATEST};
        int[] due = {-1, -1, -1, -1, 2, -1, -1};
        for (int i = 0; i < regions.length; i++) {
            Checks.due("live(" + regions[i] + ")", heap.live(regions[i]), due[i]);
        }
        heap.hold(1, -1);
        heap.mark();
        Checks.due("live(11), known to be 0", heap.live(11), 0);
    }

    private static void incoming() {
        Checks.sentence("How many fields of objects in other regions hold objects in this one (for a large object's regions: in the"
            + " LARGE one); -1 when there is no such region.");
        RegionHeap heap = new RegionHeap();
        heap.make(0, 3, 3);
        heap.make(1, 3, 3);
        heap.make(2, 3, 3);
        heap.make(3, 3, 3);
        heap.link(0, 0, 1);
        heap.link(0, 1, 0);
        Checks.due("fields in the region itself", heap.incoming(0), 0);
        heap.link(2, 0, 0);
        heap.link(2, 1, 0);
        heap.link(3, 2, 1);
        Checks.due("fields elsewhere, each", heap.incoming(0), 3);
        heap.hold(2, -1);
        Checks.due("fields of one not reached too", heap.incoming(0), 3);
        heap.link(3, 2, -1);
        Checks.due("not a field that is null", heap.incoming(0), 2);
        int[] regions = {LEAST, -1, 1, 11, 12, GREATEST};
        int[] due = {-1, -1, 0, 0, -1, -1};
        for (int i = 0; i < regions.length; i++) {
            Checks.due("incoming(" + regions[i] + ")", heap.incoming(regions[i]), due[i]);
        }
    }

    private static void incomingOfLargeOnes() {
        Checks.sentence("(for a large object's regions: in the LARGE one)");
        RegionHeap heap = new RegionHeap();
        heap.large(0, 3, 40);
        heap.make(1, 2, 0);
        heap.large(2, 1, 16);
        heap.link(1, 0, 0);
        heap.link(1, 1, 0);
        heap.link(2, 0, 0);
        Checks.due("of the LARGE one", heap.incoming(0), 3);
        Checks.due("of the REST ones", heap.incoming(1) + " " + heap.incoming(2), "0 0");
        heap.link(0, 0, 0);
        heap.link(0, 1, 1);
        heap.link(0, 2, 2);
        Checks.due("its own field does not count", heap.incoming(0), 3);
        Checks.due("its fields count elsewhere", heap.incoming(3) + " " + heap.incoming(4), "1 1");
    }

    private static void count() {
        Checks.sentence("How many collections there were that copied (0, also those that found nothing to copy), how many full"
            + " ones (1), how many words were copied by the first (2), how many objects were made (3); -1 for any other number.");
        RegionHeap heap = Heaps.walled(2);
        counted(heap, "0 0 0 10");
        heap.collect(0);
        counted(heap, "1 0 0 10");
        heap.make(1, 3, 0);
        heap.collect(0);
        counted(heap, "2 0 5 11");
        heap.full();
        counted(heap, "2 1 5 11");
        heap.make(2, 0, 0);
        heap.collect(0);
        counted(heap, "2 2 5 12");
        heap.large(3, 0, 17);
        counted(heap, "2 3 5 12");
        heap.large(3, 0, 16);
        counted(heap, "2 3 5 13");
        heap.make(4, 3, 3);
        counted(heap, "3 4 5 14");
        heap.make(5, 0, 0);
        counted(heap, "4 5 5 14");
        int[] others = {LEAST, -1, 4, GREATEST};
        for (int which : others) {
            Checks.due("count(" + which + ")", heap.count(which), -1);
        }
    }

    private static void counted(RegionHeap heap, String due) {
        Checks.due("counts", heap.count(0) + " " + heap.count(1) + " " + heap.count(2) + " " + heap.count(3), due);
    }
}
