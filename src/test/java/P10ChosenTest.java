/** Promise 10: chosen. */
public final class P10ChosenTest {
    public static void main(String[] args) {
        byWorthThenByNumber();
        passesOverWhatIsTooDear();
        worthIsNotRounded();
        onlyOldWithKnownCountAndGarbage();
        fieldsOfObjectsNotReachedCost();
        Checks.finish();
    }

    private static void byWorthThenByNumber() {
        RegionHeap heap = new RegionHeap();
        for (int root = 0; root < 6; root++) {
            heap.make(root, 3, 3);
        }
        heap.full();
        Checks.due("no garbage", heap.chosen(1000), 0);
        heap.hold(1, -1);
        heap.hold(2, -1);
        heap.hold(3, -1);
        heap.hold(5, -1);
        Checks.due("no garbage known", heap.chosen(1000), 0);
        heap.mark();
        String before = Checks.state(heap);
        Checks.due("chosen(-1)", heap.chosen(-1), 0);
        Checks.due("chosen of the least int", heap.chosen(Integer.MIN_VALUE), 0);
        Checks.due("chosen(0)", heap.chosen(0), 0);
        Checks.due("chosen(1)", heap.chosen(1), 2);
        Checks.due("chosen(9)", heap.chosen(9), 2);
        Checks.due("chosen(10)", heap.chosen(10), 3);
        Checks.due("chosen(18)", heap.chosen(18), 3);
        Checks.due("chosen(19)", heap.chosen(19), 7);
        Checks.due("chosen of the greatest int", heap.chosen(Integer.MAX_VALUE), 7);
        Checks.due("state", Checks.state(heap), before);
        heap.link(4, 0, 0);
        Checks.due("chosen(10), incoming now dearer", heap.chosen(10), 6);
        Checks.due("chosen(19)", heap.chosen(19), 6);
        Checks.due("chosen(20)", heap.chosen(20), 7);
    }

    private static void passesOverWhatIsTooDear() {
        RegionHeap heap = new RegionHeap();
        heap.make(0, 3, 3);
        heap.make(1, 3, 3);
        heap.make(2, 0, 0);
        heap.make(3, 0, 0);
        heap.full();
        heap.hold(1, -1);
        heap.hold(3, -1);
        heap.mark();
        Checks.due("chosen(2)", heap.chosen(2), 0);
        Checks.due("chosen(3)", heap.chosen(3), 2);
        Checks.due("chosen(8)", heap.chosen(8), 2);
        Checks.due("chosen(9)", heap.chosen(9), 1);
        Checks.due("chosen(11)", heap.chosen(11), 1);
        Checks.due("chosen(12)", heap.chosen(12), 3);
    }

    /** Region 0: garbage 7 for 9; region 1: garbage 8 for 9; a division of ints would find them alike. */
    private static void worthIsNotRounded() {
        RegionHeap heap = new RegionHeap();
        heap.make(0, 3, 3);
        heap.make(1, 3, 2);
        heap.make(2, 3, 3);
        heap.make(3, 3, 3);
        heap.full();
        heap.hold(1, -1);
        heap.hold(3, -1);
        heap.mark();
        Checks.due("chosen(9)", heap.chosen(9), 2);
        Checks.due("chosen(18)", heap.chosen(18), 3);
    }

    private static void onlyOldWithKnownCountAndGarbage() {
        RegionHeap heap = new RegionHeap();
        heap.make(0, 0, 0);
        heap.make(1, 0, 0);
        heap.hold(1, -1);
        heap.mark();
        Checks.due("EDEN", heap.chosen(1000), 0);
        heap.make(1, 0, 0);
        heap.collect(0);
        heap.hold(1, -1);
        heap.mark();
        Checks.due("live of SURVIVOR", heap.live(1), 2);
        Checks.due("SURVIVOR", heap.chosen(1000), 0);
        heap.make(1, 0, 0);
        heap.make(2, 0, 0);
        heap.collect(0);
        heap.collect(0);
        heap.hold(1, -1);
        Checks.due("OLD, not known", heap.chosen(1000), 0);
        heap.mark();
        Checks.due("OLD, known, with garbage", heap.chosen(1000), 1 << heap.region(2));
        heap.collect(1000);
        Checks.due("copied to: not known", heap.chosen(1000), 0);
        heap.mark();
        Checks.due("no garbage", heap.chosen(1000), 0);
    }

    private static void fieldsOfObjectsNotReachedCost() {
        RegionHeap heap = new RegionHeap();
        heap.make(0, 3, 3);
        heap.make(1, 3, 3);
        heap.make(2, 0, 0);
        heap.make(3, 0, 0);
        heap.full();
        heap.link(1, 0, 2);
        heap.link(1, 1, 3);
        heap.link(1, 2, 3);
        heap.hold(1, -1);
        heap.hold(3, -1);
        heap.mark();
        Checks.due("live(1)", heap.live(1), 2);
        Checks.due("incoming(1)", heap.incoming(1), 3);
        Checks.due("chosen(5)", heap.chosen(5), 0);
        Checks.due("chosen(6)", heap.chosen(6), 2);
    }
}
