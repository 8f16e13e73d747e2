/** "Terms", CHOSEN for a budget and MARKING: each sentence that names an edge. */
public final class TermsChosenTest {
    public static void main(String[] args) {
        costJustWithinTheBudget();
        oldAlone();
        liveCountKnown();
        garbageAboveZero();
        greaterWorthFirst();
        sameWorthLessNumberFirst();
        costsTogether();
        goesOnBehindOneTooDear();
        allTwelve();
        whichRegionsAreMarked();
        liveStaysWhatItIs();
        liveUntilTheRegionIsFree();
        liveUntilAnObjectIsMade();
        Checks.finish();
    }

    /** Region 0: 2 words of garbage, 13 live, 2 fields of region 1 hold objects there: cost 16. */
    private static RegionHeap costSixteen() {
        RegionHeap heap = new RegionHeap();
        heap.make(0, 0, 3);
        heap.make(1, 0, 0);
        heap.make(2, 3, 3);
        heap.make(3, 3, 3);
        heap.full();
        heap.link(3, 0, 0);
        heap.link(3, 1, 0);
        heap.link(2, 0, 0);
        heap.hold(1, -1);
        heap.mark();
        return heap;
    }

    private static void costJustWithinTheBudget() {
        Checks.sentence("GARBAGE, what it has used less its live count, and a COST, 1 plus its live count plus its INCOMING count:"
            + " how many fields of objects in other regions (reached or not) hold objects in it");
        RegionHeap heap = costSixteen();
        Checks.due("used, live, incoming", heap.used(0) + " " + heap.live(0) + " " + heap.incoming(0), "15 13 2");
        Checks.due("chosen(15)", heap.chosen(15), 0);
        Checks.due("chosen(16)", heap.chosen(16), 1);
        heap.hold(3, -1);
        Checks.due("chosen(15), the fields not of a reached object", heap.chosen(15), 0);
        Checks.due("chosen(16), the fields not of a reached object", heap.chosen(16), 1);
        Checks.due("collect(15)", heap.collect(15), 0);
        Checks.due("collect(16)", heap.collect(16), 2);
    }

    private static void oldAlone() {
        Checks.sentence("an OLD region whose live count is known has GARBAGE");
        RegionHeap heap = new RegionHeap();
        heap.make(0, 0, 0);
        heap.collect(0);
        heap.make(0, 0, 0);
        heap.large(0, 0, 17);
        heap.hold(0, -1);
        heap.mark();
        Checks.due("kinds", Checks.kinds(heap), "124500000000");
        Checks.due("live counts", heap.live(0) + " " + heap.live(1), "0 0");
        Checks.due("chosen(1000)", heap.chosen(1000), 0);
    }

    private static void liveCountKnown() {
        Checks.sentence("an OLD region whose live count is known");
        RegionHeap heap = new RegionHeap();
        heap.make(0, 0, 0);
        heap.make(1, 0, 0);
        heap.collect(0);
        heap.collect(0);
        heap.hold(0, -1);
        Checks.due("kind and live", heap.kind(0) + " " + heap.live(0), "3 -1");
        Checks.due("chosen(1000), not known", heap.chosen(1000), 0);
        Checks.due("collect(1000), not known", heap.collect(1000), 0);
        heap.mark();
        Checks.due("chosen(3), known", heap.chosen(3), 1);
    }

    private static void garbageAboveZero() {
        Checks.sentence("Of those with garbage above 0");
        RegionHeap heap = new RegionHeap();
        heap.make(0, 0, 0);
        heap.full();
        heap.mark();
        Checks.due("used and live", heap.used(0) + " " + heap.live(0), "2 2");
        Checks.due("chosen(1000)", heap.chosen(1000), 0);
        Checks.due("collect(1000)", heap.collect(1000), 0);
        heap.make(1, 0, 0);
        heap.full();
        heap.hold(0, -1);
        Checks.due("chosen(1000), garbage that no mark has seen", heap.chosen(1000), 0);
        heap.mark();
        Checks.due("chosen(1000), the least garbage", heap.chosen(1000), 1);
    }

    private static void greaterWorthFirst() {
        Checks.sentence("one comes before another one if its garbage times the other's cost is greater than the other's garbage"
            + " times its cost");
        RegionHeap heap = new RegionHeap();
        heap.make(0, 3, 3);
        heap.make(1, 3, 2);
        heap.make(2, 3, 3);
        heap.make(3, 3, 3);
        heap.full();
        heap.hold(1, -1);
        heap.hold(2, -1);
        heap.mark();
        Checks.due("used, live of region 0", heap.used(0) + " " + heap.live(0), "15 8");
        Checks.due("used, live of region 1", heap.used(1) + " " + heap.live(1), "16 8");
        Checks.due("chosen(17), 8 for 9 before 7 for 9", heap.chosen(17), 2);
        Checks.due("chosen(18)", heap.chosen(18), 3);
        heap.link(0, 0, 3);
        Checks.due("chosen(9), 8 for 10 is first but too dear", heap.chosen(9), 1);
        Checks.due("chosen(18), 8 for 10 before 7 for 9", heap.chosen(18), 2);
        heap.link(0, 1, 3);
        Checks.due("chosen(19), 7 for 9 before 8 for 11", heap.chosen(19), 1);
    }

    private static void sameWorthLessNumberFirst() {
        Checks.sentence("or the same and its number is less");
        RegionHeap cheapFirst = new RegionHeap();
        cheapFirst.make(0, 0, 2);
        cheapFirst.make(1, 0, 3);
        cheapFirst.make(2, 3, 3);
        cheapFirst.make(3, 3, 3);
        cheapFirst.make(4, 3, 0);
        sameWorth(cheapFirst, 3, 0, 2);
        Checks.due("chosen(5)", cheapFirst.chosen(5), 0);
        Checks.due("chosen(6), 4 for 6 in region 0", cheapFirst.chosen(6), 1);
        Checks.due("chosen(12), 8 for 12 in region 1", cheapFirst.chosen(12), 1);
        Checks.due("chosen(17)", cheapFirst.chosen(17), 1);
        Checks.due("chosen(18)", cheapFirst.chosen(18), 3);
        RegionHeap dearFirst = new RegionHeap();
        dearFirst.make(0, 3, 3);
        dearFirst.make(1, 3, 3);
        dearFirst.make(2, 0, 2);
        dearFirst.make(3, 0, 3);
        dearFirst.make(4, 3, 3);
        sameWorth(dearFirst, 1, 0, 2);
        Checks.due("chosen(11), 8 for 12 in region 0 is too dear", dearFirst.chosen(11), 2);
        Checks.due("chosen(12), 8 for 12 in region 0", dearFirst.chosen(12), 1);
        Checks.due("chosen(17), 4 for 6 in region 1", dearFirst.chosen(17), 1);
        Checks.due("chosen(18)", dearFirst.chosen(18), 3);
    }

    /** Root 4's three fields hold what the root does; two other roots hold nothing from then on. */
    private static void sameWorth(RegionHeap heap, int root, int firstDropped, int secondDropped) {
        heap.full();
        for (int field = 0; field < 3; field++) {
            heap.link(4, field, root);
        }
        heap.hold(firstDropped, -1);
        heap.hold(secondDropped, -1);
        heap.mark();
        Checks.due("kinds", Checks.kinds(heap), "333000000000");
    }

    private static void costsTogether() {
        Checks.sentence("a region is chosen if its cost and the costs of those chosen before are not more than the budget together");
        RegionHeap heap = new RegionHeap();
        for (int root = 0; root < 6; root++) {
            heap.make(root, 3, 3);
        }
        heap.full();
        heap.hold(1, -1);
        heap.hold(3, -1);
        heap.hold(5, -1);
        heap.mark();
        int[] budgets = {0, 8, 9, 17, 18, 26, 27, 28, Integer.MAX_VALUE};
        int[] due = {0, 0, 1, 1, 3, 3, 7, 7, 7};
        for (int i = 0; i < budgets.length; i++) {
            Checks.due("chosen(" + budgets[i] + "), three for 9 each", heap.chosen(budgets[i]), due[i]);
        }
        Checks.due("collect(18)", heap.collect(18), 2);
        Checks.due("the two chosen are collected", Checks.kinds(heap), "003300000000");
    }

    private static void goesOnBehindOneTooDear() {
        Checks.sentence("Going through them in this order, a region is chosen if");
        RegionHeap heap = new RegionHeap();
        heap.make(0, 3, 3);
        heap.make(1, 3, 3);
        heap.make(2, 0, 1);
        heap.make(3, 0, 0);
        heap.full();
        heap.hold(1, -1);
        heap.hold(3, -1);
        heap.mark();
        Checks.due("chosen(3), 8 for 9 and 2 for 4", heap.chosen(3), 0);
        Checks.due("chosen(4), the first is too dear, the second not", heap.chosen(4), 2);
        Checks.due("chosen(8)", heap.chosen(8), 2);
        Checks.due("chosen(9), the second is too dear then", heap.chosen(9), 1);
        Checks.due("chosen(12)", heap.chosen(12), 1);
        Checks.due("chosen(13)", heap.chosen(13), 3);
    }

    private static void allTwelve() {
        Checks.sentence("Going through them in this order, a region is chosen if");
        RegionHeap heap = new RegionHeap();
        for (int i = 0; i < 24; i++) {
            Heaps.chainEight(heap);
        }
        heap.full();
        heap.hold(0, -1);
        heap.hold(1, -1);
        heap.mark();
        int costs = 0;
        for (int region = 0; region < 12; region++) {
            costs += 1 + heap.incoming(region);
        }
        Checks.due("chosen for all that they cost", heap.chosen(costs), 4095);
        Checks.due("one is left out for one less", Integer.bitCount(heap.chosen(costs - 1)), 11);
        Checks.due("collect", heap.collect(costs), 0);
        Checks.due("kinds", Checks.kinds(heap), "000000000000");
    }

    private static void whichRegionsAreMarked() {
        Checks.sentence("MARKING: the live count of each OLD, EDEN and SURVIVOR region is known then: the sum of the sizes of the"
            + " reached objects in it.");
        RegionHeap heap = new RegionHeap();
        heap.make(0, 1, 0);
        heap.make(1, 0, 0);
        heap.full();
        heap.make(1, 1, 1);
        heap.collect(0);
        heap.make(2, 0, 3);
        heap.make(3, 0, 2);
        heap.link(1, 0, 3);
        heap.large(4, 0, 17);
        heap.hold(3, -1);
        Checks.due("kinds", Checks.kinds(heap), "312450000000");
        Checks.due("mark()", heap.mark(), 3 + 4 + 5 + 4 + 17);
        int[] due = {3, 9, 4, -1, -1, -1};
        for (int region = 0; region < due.length; region++) {
            Checks.due("live(" + region + ")", heap.live(region), due[region]);
        }
        for (int root = 0; root < 6; root++) {
            heap.hold(root, -1);
        }
        Checks.due("mark(), nothing reached", heap.mark(), 0);
        Checks.due("live counts are known to be 0", heap.live(0) + " " + heap.live(1) + " " + heap.live(2), "0 0 0");
    }

    private static void liveStaysWhatItIs() {
        Checks.sentence("(It stays what it is until the region is FREE, or it is said that it is not known");
        RegionHeap heap = new RegionHeap();
        heap.make(0, 1, 0);
        heap.make(1, 0, 0);
        heap.full();
        heap.link(0, 0, 1);
        heap.load(2, 0, 0);
        heap.hold(1, -1);
        heap.hold(2, -1);
        heap.link(0, 0, -1);
        heap.chosen(9);
        heap.make(3, 0, 0);
        heap.large(4, 0, 9);
        heap.collect(1000);
        heap.make(9, 0, 0);
        Checks.due("live(0), though less is reached", heap.live(0), 5);
        heap.mark();
        Checks.due("live(0), marked again", heap.live(0), 3);
    }

    private static void liveUntilTheRegionIsFree() {
        Checks.sentence("It stays what it is until the region is FREE");
        RegionHeap heap = new RegionHeap();
        heap.make(0, 0, 0);
        heap.mark();
        heap.hold(0, -1);
        heap.collect(0);
        Checks.due("kind and live of region 0", heap.kind(0) + " " + heap.live(0), "0 -1");
        heap.make(0, 3, 3);
        heap.make(1, 3, 3);
        heap.make(2, 0, 0);
        heap.mark();
        Checks.due("live counts", heap.live(0) + " " + heap.live(1), "16 2");
        heap.hold(0, -1);
        heap.full();
        Checks.due("kinds", Checks.kinds(heap), "300000000000");
        Checks.due("live counts then", heap.live(0) + " " + heap.live(1), "10 -1");
        heap.make(3, 0, 0);
        Checks.due("region 1 in use again", heap.kind(1) + " " + heap.live(1), "1 -1");
    }

    private static void liveUntilAnObjectIsMade() {
        Checks.sentence("an object that is made in a region makes it not known, too.)");
        RegionHeap heap = new RegionHeap();
        heap.make(0, 0, 0);
        heap.mark();
        heap.make(6, 0, 0);
        Checks.due("live(0), one refused", heap.live(0), 2);
        heap.make(1, 0, 0);
        Checks.due("live(0), one made there", heap.live(0), -1);
        heap.make(2, 3, 3);
        heap.mark();
        heap.make(3, 3, 3);
        Checks.due("live counts, one made in region 1", heap.live(0) + " " + heap.live(1), "12 -1");
    }
}
