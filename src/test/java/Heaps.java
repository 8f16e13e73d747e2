/** Heaps in states that several tests begin with. */
final class Heaps {
    private Heaps() {
    }

    /**
     * All regions but the last ones are LARGE, each with an object of its own. Root 0 holds the last of these
     * objects and field 0 of each the one before, so that root 0 alone decides whether they are reached; their
     * fields 1 are null.
     */
    static RegionHeap walled(int regionsLeft) {
        RegionHeap heap = new RegionHeap();
        for (int region = 0; region < 12 - regionsLeft; region++) {
            heap.large(1, 2, 16);
            heap.link(1, 0, 0);
            heap.hold(0, 1);
        }
        heap.hold(1, -1);
        return heap;
    }

    /** Makes an object of 8 words in front of the chain that root 0 holds. */
    static int chainEight(RegionHeap heap) {
        int number = heap.make(1, 3, 3);
        if (number > 0) {
            heap.link(1, 0, 0);
            heap.hold(0, 1);
        }
        return number;
    }

    /** How many words all regions have used together. */
    static int usedTogether(RegionHeap heap) {
        int sum = 0;
        for (int region = 0; region < 12; region++) {
            sum += heap.used(region);
        }
        return sum;
    }
}
