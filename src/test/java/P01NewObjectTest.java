/** Promise 1: a new object has all regions FREE and all roots null. */
public final class P01NewObjectTest {
    public static void main(String[] args) {
        RegionHeap heap = new RegionHeap();
        for (int region = 0; region < 12; region++) {
            Checks.due("kind(" + region + ")", heap.kind(region), 0);
            Checks.due("used(" + region + ")", heap.used(region), 0);
            Checks.due("live(" + region + ")", heap.live(region), -1);
            Checks.due("incoming(" + region + ")", heap.incoming(region), 0);
        }
        for (int root = 0; root < 6; root++) {
            Checks.due("serial(" + root + ")", heap.serial(root), 0);
            Checks.due("region(" + root + ")", heap.region(root), -1);
        }
        for (int which = 0; which < 4; which++) {
            Checks.due("count(" + which + ")", heap.count(which), 0);
        }
        Checks.due("chosen(1000)", heap.chosen(1000), 0);
        twoHeapsShareNothing();
        Checks.finish();
    }

    private static void twoHeapsShareNothing() {
        RegionHeap one = new RegionHeap();
        RegionHeap other = new RegionHeap();
        one.make(0, 1, 1);
        one.large(1, 0, 40);
        Checks.due("the other heap", Checks.state(other), Checks.state(new RegionHeap()));
        Checks.due("the other heap's first make", other.make(5, 0, 0), 1);
    }
}
