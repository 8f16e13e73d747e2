/** Every call with numbers far and just outside: it is refused and changes nothing, and nothing is thrown. */
public final class WrongInputsTest {
    private static final int[] OUTSIDE = {Integer.MIN_VALUE, Integer.MIN_VALUE + 1, -100, -2, 1000, Integer.MAX_VALUE};

    public static void main(String[] args) {
        RegionHeap empty = new RegionHeap();
        justOutside(empty);
        allOutside(empty);
        Checks.due("the empty heap", Checks.state(empty), Checks.state(new RegionHeap()));

        RegionHeap heap = new RegionHeap();
        heap.make(0, 3, 0);
        heap.full();
        heap.make(1, 0, 3);
        heap.link(0, 2, 1);
        heap.large(2, 3, 40);
        heap.mark();
        String before = Checks.state(heap);
        justOutside(heap);
        allOutside(heap);
        Checks.due("the heap with objects", Checks.state(heap), before);
        Checks.finish();
    }

    private static void justOutside(RegionHeap heap) {
        Checks.due("make(-1, 0, 0)", heap.make(-1, 0, 0), -1);
        Checks.due("make(6, 0, 0)", heap.make(6, 0, 0), -1);
        Checks.due("make(0, -1, 0)", heap.make(0, -1, 0), -1);
        Checks.due("make(0, 4, 0)", heap.make(0, 4, 0), -1);
        Checks.due("make(0, 0, -1)", heap.make(0, 0, -1), -1);
        Checks.due("make(0, 0, 4)", heap.make(0, 0, 4), -1);
        Checks.due("large(-1, 0, 9)", heap.large(-1, 0, 9), -1);
        Checks.due("large(6, 0, 9)", heap.large(6, 0, 9), -1);
        Checks.due("large(0, -1, 9)", heap.large(0, -1, 9), -1);
        Checks.due("large(0, 4, 9)", heap.large(0, 4, 9), -1);
        Checks.due("large(0, 0, 8)", heap.large(0, 0, 8), -1);
        Checks.due("large(0, 0, 41)", heap.large(0, 0, 41), -1);
    }

    private static void allOutside(RegionHeap heap) {
        for (int x : OUTSIDE) {
            Checks.due("make, root " + x, heap.make(x, 0, 0), -1);
            Checks.due("make, fields " + x, heap.make(0, x, 0), -1);
            Checks.due("make, extra " + x, heap.make(0, 0, x), -1);
            Checks.due("large, root " + x, heap.large(x, 0, 9), -1);
            Checks.due("large, fields " + x, heap.large(0, x, 9), -1);
            Checks.due("large, size " + x, heap.large(0, 0, x), -1);
            Checks.due("link, root " + x, heap.link(x, 0, 0), false);
            Checks.due("link, field " + x, heap.link(0, x, 0), false);
            Checks.due("link, to " + x, heap.link(0, 0, x), false);
            Checks.due("load, to " + x, heap.load(x, 0, 0), false);
            Checks.due("load, root " + x, heap.load(0, x, 0), false);
            Checks.due("load, field " + x, heap.load(0, 0, x), false);
            Checks.due("hold, to " + x, heap.hold(x, 0), false);
            Checks.due("hold, root " + x, heap.hold(0, x), false);
            if (x < 0) {
                Checks.due("collect(" + x + ")", heap.collect(x), -1);
                Checks.due("chosen(" + x + ")", heap.chosen(x), 0);
            }
        }
    }
}
