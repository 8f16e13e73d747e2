/** Promise 6: hold. */
public final class P06HoldTest {
    public static void main(String[] args) {
        RegionHeap heap = new RegionHeap();
        heap.make(0, 0, 0);
        heap.make(1, 0, 0);
        Checks.due("hold(5, 0)", heap.hold(5, 0), true);
        Checks.due("serial(5)", heap.serial(5), 1);
        Checks.due("serial(0) is as it was", heap.serial(0), 1);
        Checks.due("hold(0, 1)", heap.hold(0, 1), true);
        Checks.due("serial(0)", heap.serial(0), 2);
        Checks.due("serial(5) is as it was", heap.serial(5), 1);
        Checks.due("hold(1, 1)", heap.hold(1, 1), true);
        Checks.due("serial(1)", heap.serial(1), 2);
        Checks.due("hold(1, 3), root 3 holds null", heap.hold(1, 3), true);
        Checks.due("serial(1) then", heap.serial(1), 0);
        Checks.due("hold(0, -1)", heap.hold(0, -1), true);
        Checks.due("serial(0) then", heap.serial(0), 0);

        String before = Checks.state(heap);
        Checks.due("hold(-1, 5)", heap.hold(-1, 5), false);
        Checks.due("hold(6, 5)", heap.hold(6, 5), false);
        Checks.due("hold(5, -2)", heap.hold(5, -2), false);
        Checks.due("hold(5, 6)", heap.hold(5, 6), false);
        Checks.due("state", Checks.state(heap), before);
        Checks.finish();
    }
}
