public final class RegionHeap {
    private static final int REGION_COUNT = 12;
    private static final int REGION_WORDS = 16;
    private static final int ROOT_COUNT = 6;
    private static final int MOST_EDEN = 3;

    private static final int HEAD_WORDS = 2;
    private static final int MOST_FIELDS = 3;
    private static final int MOST_EXTRA = 3;
    private static final int LEAST_LARGE = 9;
    private static final int MOST_LARGE = 40;

    /** No object is smaller than its head, so no region holds more objects than this. */
    private static final int MOST_IN_REGION = REGION_WORDS / HEAD_WORDS;
    private static final int MOST_ITEMS = REGION_COUNT * MOST_IN_REGION;

    private static final int FREE = 0;
    private static final int EDEN = 1;
    private static final int SURVIVOR = 2;
    private static final int OLD = 3;
    private static final int LARGE = 4;
    private static final int REST = 5;

    private static final int UNKNOWN = -1;
    private static final int REFUSED = -1;
    private static final int NOTHING_MADE = -2;
    private static final int FULL_INSTEAD = -2;
    private static final int NULL_ROOT = -1;

    private static final int COUNT_COPYING = 0;
    private static final int COUNT_FULL = 1;
    private static final int COUNT_COPIED_WORDS = 2;
    private static final int COUNT_MADE = 3;

    /** An object of the heap; it stays the same item wherever it is moved, so roots and fields need no mending. */
    private static final class Item {
        private final int number;
        private final int words;
        private final Item[] fields;
        private Region home;
        private int start;
        private boolean reached;
        /** Where a collection means to copy it; null while it is not found. */
        private Region target;

        private Item(int number, int words, int fieldCount) {
            this.number = number;
            this.words = words;
            this.fields = new Item[fieldCount];
        }

        private boolean hasField(int field) {
            return field >= 0 && field < fields.length;
        }
    }

    private static final class Region {
        private final int index;
        private final Item[] items;
        private int itemCount;
        private int kind;
        private int used;
        private int live;
        private boolean collected;
        /** What a collection means to make of it; apart from kind, as a collection may come to nothing. */
        private int plannedKind;
        private int plannedUsed;
        private boolean candidate;
        private int garbage;
        private int cost;

        private Region(int index) {
            this.index = index;
            this.items = new Item[MOST_IN_REGION];
            this.kind = FREE;
            this.live = UNKNOWN;
        }

        private boolean hasRoom(int words) {
            return used + words <= REGION_WORDS;
        }

        private boolean isPartOfLarge() {
            return kind == LARGE || kind == REST;
        }

        private void append(Item item) {
            item.home = this;
            item.start = used;
            items[itemCount] = item;
            itemCount++;
            used += item.words;
        }

        private void clear() {
            kind = FREE;
            used = 0;
            live = UNKNOWN;
            itemCount = 0;
        }

        private int reachedWords() {
            int sum = 0;
            for (int i = 0; i < itemCount; i++) {
                if (items[i].reached) {
                    sum += items[i].words;
                }
            }
            return sum;
        }

        /** Crosswise, so that no division rounds the worth away. */
        private boolean comesBefore(Region other) {
            int mine = garbage * other.cost;
            int its = other.garbage * cost;
            return mine > its || (mine == its && index < other.index);
        }
    }

    private final Region[] regions;
    private final Item[] roots;
    /** The objects that the collection or marking under way has come to, in that order. */
    private final Item[] found;
    private int foundCount;
    /** By kind, the region that the collection under way copied to last. */
    private final Region[] lastTarget;
    private Region current;
    private int copyingCollections;
    private int fullCollections;
    private int copiedWords;
    private int made;

    public RegionHeap() {
        regions = new Region[REGION_COUNT];
        for (int r = 0; r < REGION_COUNT; r++) {
            regions[r] = new Region(r);
        }
        roots = new Item[ROOT_COUNT];
        found = new Item[MOST_ITEMS];
        lastTarget = new Region[OLD + 1];
    }

    // ---- making

    public int make(int root, int fields, int extra) {
        if (!isRoot(root) || !isFieldCount(fields) || extra < 0 || extra > MOST_EXTRA) {
            return REFUSED;
        }
        int words = HEAD_WORDS + fields + extra;
        Region place = placeForSmall(words);
        if (place == null) {
            return NOTHING_MADE;
        }
        Item item = newItem(words, fields);
        place.append(item);
        place.live = UNKNOWN;
        roots[root] = item;
        return item.number;
    }

    public int large(int root, int fields, int size) {
        if (!isRoot(root) || !isFieldCount(fields) || size < LEAST_LARGE || size > MOST_LARGE) {
            return REFUSED;
        }
        int needed = (size + REGION_WORDS - 1) / REGION_WORDS;
        int first = leastFreeRun(needed);
        if (first < 0) {
            collectFully();
            first = leastFreeRun(needed);
        }
        if (first < 0) {
            return NOTHING_MADE;
        }
        Item item = newItem(size, fields);
        layLarge(item, first, needed);
        roots[root] = item;
        return item.number;
    }

    private Item newItem(int words, int fieldCount) {
        made++;
        return new Item(made, words, fieldCount);
    }

    private Region placeForSmall(int words) {
        Region place = edenPlace(words);
        if (place == null) {
            collectWithin(0);
            place = edenPlace(words);
        }
        if (place == null) {
            collectFully();
            place = edenPlace(words);
        }
        return place != null ? place : leastOldWithRoom(words);
    }

    private Region edenPlace(int words) {
        if (current != null && current.hasRoom(words)) {
            return current;
        }
        int free = leastFreeRun(1);
        if (free < 0 || edenCount() >= MOST_EDEN) {
            return null;
        }
        current = regions[free];
        current.kind = EDEN;
        return current;
    }

    private int edenCount() {
        int count = 0;
        for (int r = 0; r < REGION_COUNT; r++) {
            if (regions[r].kind == EDEN) {
                count++;
            }
        }
        return count;
    }

    private Region leastOldWithRoom(int words) {
        for (int r = 0; r < REGION_COUNT; r++) {
            if (regions[r].kind == OLD && regions[r].hasRoom(words)) {
                return regions[r];
            }
        }
        return null;
    }

    /** The first of the least FREE regions side by side; -1 when there are none. */
    private int leastFreeRun(int needed) {
        int run = 0;
        for (int r = 0; r < REGION_COUNT; r++) {
            run = regions[r].kind == FREE ? run + 1 : 0;
            if (run == needed) {
                return r - needed + 1;
            }
        }
        return -1;
    }

    private void layLarge(Item item, int first, int needed) {
        regions[first].append(item);
        int left = item.words;
        for (int r = first; r < first + needed; r++) {
            regions[r].kind = r == first ? LARGE : REST;
            regions[r].used = Math.min(left, REGION_WORDS);
            left -= REGION_WORDS;
        }
    }

    // ---- roots and fields

    public boolean link(int root, int field, int to) {
        Item item = heldBy(root);
        if (item == null || !item.hasField(field) || !isRootOrNull(to)) {
            return false;
        }
        item.fields[field] = heldBy(to);
        return true;
    }

    public boolean load(int to, int root, int field) {
        Item item = heldBy(root);
        if (!isRoot(to) || item == null || !item.hasField(field)) {
            return false;
        }
        roots[to] = item.fields[field];
        return true;
    }

    public boolean hold(int to, int root) {
        if (!isRoot(to) || !isRootOrNull(root)) {
            return false;
        }
        roots[to] = heldBy(root);
        return true;
    }

    /** Null as well when there is no such root, which covers the number that stands for null. */
    private Item heldBy(int root) {
        return isRoot(root) ? roots[root] : null;
    }

    private static boolean isRoot(int root) {
        return root >= 0 && root < ROOT_COUNT;
    }

    private static boolean isRootOrNull(int root) {
        return root == NULL_ROOT || isRoot(root);
    }

    private static boolean isFieldCount(int fields) {
        return fields >= 0 && fields <= MOST_FIELDS;
    }

    private static boolean isRegion(int region) {
        return region >= 0 && region < REGION_COUNT;
    }

    // ---- a collection that copies

    public int collect(int budget) {
        return budget < 0 ? REFUSED : collectWithin(budget);
    }

    private int collectWithin(int budget) {
        beginPlan(chooseWithin(budget));
        if (!planRoots() || !planRegionsThatStay() || !planFound()) {
            collectFully();
            return FULL_INSTEAD;
        }
        carryOutPlan();
        return foundCount;
    }

    private void beginPlan(int chosenOld) {
        foundCount = 0;
        lastTarget[SURVIVOR] = null;
        lastTarget[OLD] = null;
        for (int r = 0; r < REGION_COUNT; r++) {
            Region region = regions[r];
            region.collected = region.kind == EDEN || region.kind == SURVIVOR || (chosenOld >> r & 1) == 1;
            region.plannedKind = FREE;
            region.plannedUsed = 0;
            for (int i = 0; i < region.itemCount; i++) {
                region.items[i].target = null;
            }
        }
    }

    /** This and the other plans answer false when a FREE region is needed and there is none. */
    private boolean planRoots() {
        for (int i = 0; i < ROOT_COUNT; i++) {
            if (!planCopy(roots[i])) {
                return false;
            }
        }
        return true;
    }

    private boolean planRegionsThatStay() {
        for (int r = 0; r < REGION_COUNT; r++) {
            Region region = regions[r];
            for (int i = 0; !region.collected && i < region.itemCount; i++) {
                if (!planFields(region.items[i])) {
                    return false;
                }
            }
        }
        return true;
    }

    private boolean planFound() {
        // The count grows on the way; the heap has no more objects than MOST_ITEMS.
        for (int i = 0; i < foundCount && i < MOST_ITEMS; i++) {
            if (!planFields(found[i])) {
                return false;
            }
        }
        return true;
    }

    private boolean planFields(Item item) {
        for (int f = 0; f < item.fields.length; f++) {
            if (!planCopy(item.fields[f])) {
                return false;
            }
        }
        return true;
    }

    private boolean planCopy(Item item) {
        if (item == null || !item.home.collected || item.target != null) {
            return true;
        }
        Region target = targetFor(item.home.kind == EDEN ? SURVIVOR : OLD, item.words);
        if (target == null) {
            return false;
        }
        item.target = target;
        target.plannedUsed += item.words;
        found[foundCount] = item;
        foundCount++;
        return true;
    }

    private Region targetFor(int kind, int words) {
        Region last = lastTarget[kind];
        if (last != null && last.plannedUsed + words <= REGION_WORDS) {
            return last;
        }
        for (int r = 0; r < REGION_COUNT; r++) {
            Region region = regions[r];
            if (region.kind == FREE && region.plannedKind == FREE) {
                region.plannedKind = kind;
                lastTarget[kind] = region;
                return region;
            }
        }
        return null;
    }

    private void carryOutPlan() {
        for (int r = 0; r < REGION_COUNT; r++) {
            Region region = regions[r];
            if (region.collected) {
                region.clear();
            } else if (region.plannedKind != FREE) {
                region.kind = region.plannedKind;
            }
        }
        for (int i = 0; i < foundCount; i++) {
            found[i].target.append(found[i]);
            copiedWords += found[i].words;
        }
        current = null;
        copyingCollections++;
    }

    // ---- choosing OLD regions

    public int chosen(int budget) {
        return budget < 0 ? 0 : chooseWithin(budget);
    }

    private int chooseWithin(int budget) {
        weighRegions();
        int bits = 0;
        int spent = 0;
        for (int step = 0; step < REGION_COUNT; step++) {
            Region best = bestCandidate();
            if (best == null) {
                break;
            }
            best.candidate = false;
            if (best.cost <= budget - spent) {
                spent += best.cost;
                bits |= 1 << best.index;
            }
        }
        return bits;
    }

    private void weighRegions() {
        for (int r = 0; r < REGION_COUNT; r++) {
            Region region = regions[r];
            region.candidate = region.kind == OLD && region.live != UNKNOWN && region.used > region.live;
            if (region.candidate) {
                region.garbage = region.used - region.live;
                region.cost = 1 + region.live + incomingTo(region);
            }
        }
    }

    private Region bestCandidate() {
        Region best = null;
        for (int r = 0; r < REGION_COUNT; r++) {
            Region region = regions[r];
            if (region.candidate && (best == null || region.comesBefore(best))) {
                best = region;
            }
        }
        return best;
    }

    /** A large object is at home in its LARGE region, so nothing comes in to a REST one. */
    private int incomingTo(Region region) {
        int count = 0;
        for (int r = 0; r < REGION_COUNT; r++) {
            Region other = regions[r];
            for (int i = 0; other != region && i < other.itemCount; i++) {
                count += fieldsInto(other.items[i], region);
            }
        }
        return count;
    }

    private static int fieldsInto(Item item, Region region) {
        int count = 0;
        for (int f = 0; f < item.fields.length; f++) {
            if (item.fields[f] != null && item.fields[f].home == region) {
                count++;
            }
        }
        return count;
    }

    // ---- marking

    public int mark() {
        int words = findReached();
        for (int r = 0; r < REGION_COUNT; r++) {
            Region region = regions[r];
            if (region.kind != FREE && !region.isPartOfLarge()) {
                region.live = region.reachedWords();
            }
        }
        return words;
    }

    /** Sets what every object of the heap says of being reached; answers the words of those that are. */
    private int findReached() {
        forgetReached();
        for (int i = 0; i < ROOT_COUNT; i++) {
            reach(roots[i]);
        }
        int words = 0;
        // The count grows on the way; the heap has no more objects than MOST_ITEMS.
        for (int i = 0; i < foundCount && i < MOST_ITEMS; i++) {
            words += found[i].words;
            for (int f = 0; f < found[i].fields.length; f++) {
                reach(found[i].fields[f]);
            }
        }
        return words;
    }

    private void forgetReached() {
        foundCount = 0;
        for (int r = 0; r < REGION_COUNT; r++) {
            for (int i = 0; i < regions[r].itemCount; i++) {
                regions[r].items[i].reached = false;
            }
        }
    }

    private void reach(Item item) {
        if (item != null && !item.reached) {
            item.reached = true;
            found[foundCount] = item;
            foundCount++;
        }
    }

    // ---- a full collection

    public int full() {
        return collectFully();
    }

    private int collectFully() {
        findReached();
        int left = foundCount;
        takeUpSmall();
        layTogether();
        current = null;
        fullCollections++;
        return left;
    }

    /** Leaves the reached large objects alone where they are, and the reached small ones in found. */
    private void takeUpSmall() {
        foundCount = 0;
        boolean staysLarge = false;
        for (int r = 0; r < REGION_COUNT; r++) {
            Region region = regions[r];
            if (region.kind == LARGE) {
                staysLarge = region.reachedWords() > 0;
            }
            if (!region.isPartOfLarge()) {
                takeUpReached(region);
            }
            if (!region.isPartOfLarge() || !staysLarge) {
                region.clear();
            }
        }
    }

    private void takeUpReached(Region region) {
        for (int i = 0; i < region.itemCount; i++) {
            if (region.items[i].reached) {
                found[foundCount] = region.items[i];
                foundCount++;
            }
        }
    }

    /** There is always room: no object comes behind the place that it had. */
    private void layTogether() {
        int next = 0;
        for (int r = 0; r < REGION_COUNT; r++) {
            Region region = regions[r];
            if (region.isPartOfLarge()) {
                continue;
            }
            while (next < foundCount && region.hasRoom(found[next].words)) {
                region.append(found[next]);
                next++;
            }
            if (region.itemCount > 0) {
                region.kind = OLD;
                region.live = region.used;
            }
        }
    }

    // ---- questions about objects

    public int serial(int root) {
        if (!isRoot(root)) {
            return REFUSED;
        }
        return roots[root] == null ? 0 : roots[root].number;
    }

    public int region(int root) {
        Item item = heldBy(root);
        return item == null ? REFUSED : item.home.index;
    }

    public int offset(int root) {
        Item item = heldBy(root);
        return item == null ? REFUSED : item.start;
    }

    public int size(int root) {
        Item item = heldBy(root);
        return item == null ? REFUSED : item.words;
    }

    // ---- questions about regions

    public int kind(int region) {
        return isRegion(region) ? regions[region].kind : REFUSED;
    }

    public int used(int region) {
        return isRegion(region) ? regions[region].used : REFUSED;
    }

    public int live(int region) {
        return isRegion(region) ? regions[region].live : UNKNOWN;
    }

    public int incoming(int region) {
        return isRegion(region) ? incomingTo(regions[region]) : REFUSED;
    }

    public int count(int which) {
        switch (which) {
            case COUNT_COPYING:
                return copyingCollections;
            case COUNT_FULL:
                return fullCollections;
            case COUNT_COPIED_WORDS:
                return copiedWords;
            case COUNT_MADE:
                return made;
            default:
                return REFUSED;
        }
    }
}
