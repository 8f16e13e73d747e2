import java.util.ArrayList;
import java.util.Comparator;
import java.util.HashMap;
import java.util.LinkedHashMap;
import java.util.LinkedHashSet;
import java.util.List;
import java.util.Map;
import java.util.Set;
import java.util.TreeMap;

/**
 * The document once more, held in another way than the class holds it: references are serial numbers, an
 * object's place is an address (region * 16 + offset) in a sorted map, and collections make a new map.
 */
final class HeapModel {
    static final int FREE = 0;
    static final int EDEN = 1;
    static final int SURVIVOR = 2;
    static final int OLD = 3;
    static final int LARGE = 4;
    static final int REST = 5;

    private static final class Thing {
        int serial;
        int size;
        int[] refs;
    }

    private TreeMap<Integer, Thing> byAddress = new TreeMap<>();
    private int[] kind = new int[12];
    private Map<Integer, Integer> live = new HashMap<>();
    private final int[] roots = new int[6];
    private int current = -1;
    private final int[] counts = new int[4];

    /** How often a run came to the rarer places, so that a test can see that it did. */
    final Map<String, Integer> cameTo = new TreeMap<>();

    private void note(String place) {
        cameTo.merge(place, 1, Integer::sum);
    }

    private int addressOf(int serial) {
        for (Map.Entry<Integer, Thing> e : byAddress.entrySet()) {
            if (e.getValue().serial == serial) {
                return e.getKey();
            }
        }
        throw new IllegalStateException("object " + serial + " is held but gone");
    }

    private Thing thing(int serial) {
        return byAddress.get(addressOf(serial));
    }

    private int usedWords(int region) {
        int end = region * 16;
        for (Map.Entry<Integer, Thing> e : byAddress.entrySet()) {
            int from = e.getKey();
            int to = from + e.getValue().size;
            if (from < region * 16 + 16 && to > region * 16) {
                end = Math.max(end, Math.min(to, region * 16 + 16));
            }
        }
        return end - region * 16;
    }

    private static boolean in(int x, int low, int high) {
        return low <= x && x <= high;
    }

    int make(int root, int fields, int extra) {
        if (!in(root, 0, 5) || !in(fields, 0, 3) || !in(extra, 0, 3)) {
            return -1;
        }
        int size = 2 + fields + extra;
        int region = tryEden(size);
        if (region < 0) {
            note("make collects");
            if (copyCollection(0) == -2) {
                note("make's collection is full instead");
            }
            region = tryEden(size);
        }
        if (region < 0) {
            note("make collects fully");
            fullCollection();
            region = tryEden(size);
        }
        for (int r = 0; r < 12 && region < 0; r++) {
            if (kind[r] == OLD && usedWords(r) + size <= 16) {
                note("make in OLD");
                region = r;
            }
        }
        if (region < 0) {
            note("make -2");
            return -2;
        }
        live.remove(region);
        return born(root, fields, size, region * 16 + usedWords(region));
    }

    private int born(int root, int fields, int size, int address) {
        Thing t = new Thing();
        t.serial = ++counts[3];
        t.size = size;
        t.refs = new int[fields];
        byAddress.put(address, t);
        roots[root] = t.serial;
        return t.serial;
    }

    private int tryEden(int size) {
        if (current >= 0 && usedWords(current) + size <= 16) {
            return current;
        }
        int edens = 0;
        int free = -1;
        for (int r = 11; r >= 0; r--) {
            edens += kind[r] == EDEN ? 1 : 0;
            free = kind[r] == FREE ? r : free;
        }
        if (edens >= 3 || free < 0) {
            return -1;
        }
        kind[free] = EDEN;
        current = free;
        return free;
    }

    int large(int root, int fields, int size) {
        if (!in(root, 0, 5) || !in(fields, 0, 3) || !in(size, 9, 40)) {
            return -1;
        }
        int n = size <= 16 ? 1 : size <= 32 ? 2 : 3;
        int at = sideBySide(n);
        if (at < 0) {
            note("large collects fully");
            fullCollection();
            at = sideBySide(n);
        }
        if (at < 0) {
            note("large -2");
            return -2;
        }
        kind[at] = LARGE;
        for (int r = at + 1; r < at + n; r++) {
            kind[r] = REST;
        }
        return born(root, fields, size, at * 16);
    }

    private int sideBySide(int n) {
        for (int at = 0; at + n <= 12; at++) {
            boolean allFree = true;
            for (int r = at; r < at + n; r++) {
                allFree &= kind[r] == FREE;
            }
            if (allFree) {
                return at;
            }
        }
        return -1;
    }

    boolean link(int root, int field, int to) {
        if (!in(root, 0, 5) || roots[root] == 0 || !in(to, -1, 5)) {
            return false;
        }
        int[] refs = thing(roots[root]).refs;
        if (!in(field, 0, refs.length - 1)) {
            return false;
        }
        refs[field] = to == -1 ? 0 : roots[to];
        return true;
    }

    boolean load(int to, int root, int field) {
        if (!in(to, 0, 5) || !in(root, 0, 5) || roots[root] == 0) {
            return false;
        }
        int[] refs = thing(roots[root]).refs;
        if (!in(field, 0, refs.length - 1)) {
            return false;
        }
        roots[to] = refs[field];
        return true;
    }

    boolean hold(int to, int root) {
        if (!in(to, 0, 5) || !in(root, -1, 5)) {
            return false;
        }
        roots[to] = root == -1 ? 0 : roots[root];
        return true;
    }

    int collect(int budget) {
        if (budget < 0) {
            return -1;
        }
        int answer = copyCollection(budget);
        note(answer == -2 ? "collect -2" : "collect copies");
        return answer;
    }

    private static final class NoFreeRegion extends Exception {
        private static final long serialVersionUID = 1L;
    }

    /** What one collection has copied so far; thrown away if it can't be ended. */
    private final class Copying {
        final Set<Integer> collected = new LinkedHashSet<>();
        final Map<Integer, Integer> newAddress = new LinkedHashMap<>();
        final int[] newKind = kind.clone();
        final int[] nextWord = {-1, -1, -1, -1};

        void visit(int serial) throws NoFreeRegion {
            if (serial == 0 || newAddress.containsKey(serial)) {
                return;
            }
            int region = addressOf(serial) / 16;
            if (!collected.contains(region)) {
                return;
            }
            int size = thing(serial).size;
            int toKind = kind[region] == EDEN ? SURVIVOR : OLD;
            int at = nextWord[toKind];
            if (at < 0 || (at % 16 == 0) || at % 16 + size > 16) {
                at = 16 * takeFree(toKind);
            }
            newAddress.put(serial, at);
            nextWord[toKind] = at + size;
        }

        int takeFree(int toKind) throws NoFreeRegion {
            for (int r = 0; r < 12; r++) {
                if (newKind[r] == FREE) {
                    newKind[r] = toKind;
                    return r;
                }
            }
            throw new NoFreeRegion();
        }

        void visitAll() throws NoFreeRegion {
            for (int root : roots) {
                visit(root);
            }
            for (Map.Entry<Integer, Thing> e : byAddress.entrySet()) {
                if (!collected.contains(e.getKey() / 16)) {
                    for (int ref : e.getValue().refs) {
                        visit(ref);
                    }
                }
            }
            for (int i = 0; i < newAddress.size(); i++) {
                int serial = new ArrayList<>(newAddress.keySet()).get(i);
                for (int ref : thing(serial).refs) {
                    visit(ref);
                }
            }
        }
    }

    private int copyCollection(int budget) {
        Copying copying = new Copying();
        int bits = chosen(budget);
        for (int r = 0; r < 12; r++) {
            if (kind[r] == EDEN || kind[r] == SURVIVOR || (bits & (1 << r)) != 0) {
                copying.collected.add(r);
            }
        }
        try {
            copying.visitAll();
        } catch (NoFreeRegion e) {
            fullCollection();
            return -2;
        }
        if (bits != 0) {
            note("collects OLD regions");
        }
        TreeMap<Integer, Thing> after = new TreeMap<>();
        for (Map.Entry<Integer, Thing> e : byAddress.entrySet()) {
            if (!copying.collected.contains(e.getKey() / 16)) {
                after.put(e.getKey(), e.getValue());
            }
        }
        for (Map.Entry<Integer, Integer> e : copying.newAddress.entrySet()) {
            Thing t = thing(e.getKey());
            after.put(e.getValue(), t);
            counts[2] += t.size;
        }
        byAddress = after;
        kind = copying.newKind;
        for (int r : copying.collected) {
            kind[r] = FREE;
            live.remove(r);
        }
        current = -1;
        counts[0]++;
        return copying.newAddress.size();
    }

    private Set<Integer> reachedSerials() {
        Set<Integer> reached = new LinkedHashSet<>();
        for (int root : roots) {
            addReached(root, reached);
        }
        return reached;
    }

    private void addReached(int serial, Set<Integer> reached) {
        if (serial != 0 && reached.add(serial)) {
            for (int ref : thing(serial).refs) {
                addReached(ref, reached);
            }
        }
    }

    int full() {
        return fullCollection();
    }

    private int fullCollection() {
        Set<Integer> reached = reachedSerials();
        List<Thing> small = new ArrayList<>();
        TreeMap<Integer, Thing> after = new TreeMap<>();
        int[] newKind = new int[12];
        for (Map.Entry<Integer, Thing> e : byAddress.entrySet()) {
            Thing t = e.getValue();
            if (!reached.contains(t.serial)) {
                continue;
            }
            int first = e.getKey() / 16;
            if (kind[first] != LARGE) {
                small.add(t);
                continue;
            }
            after.put(e.getKey(), t);
            newKind[first] = LARGE;
            for (int r = first + 1; r * 16 < e.getKey() + t.size; r++) {
                newKind[r] = REST;
            }
        }
        live = new HashMap<>();
        int region = -1;
        int room = 0;
        for (Thing t : small) {
            if (t.size > room) {
                do {
                    region++;
                } while (newKind[region] == LARGE || newKind[region] == REST);
                newKind[region] = OLD;
                room = 16;
            }
            after.put(region * 16 + 16 - room, t);
            room -= t.size;
            live.put(region, 16 - room);
        }
        byAddress = after;
        kind = newKind;
        current = -1;
        counts[1]++;
        return after.size();
    }

    int mark() {
        Set<Integer> reached = reachedSerials();
        int all = 0;
        for (int r = 0; r < 12; r++) {
            if (kind[r] == EDEN || kind[r] == SURVIVOR || kind[r] == OLD) {
                live.put(r, 0);
            }
        }
        for (int serial : reached) {
            int size = thing(serial).size;
            all += size;
            live.computeIfPresent(addressOf(serial) / 16, (r, sum) -> sum + size);
        }
        return all;
    }

    int chosen(int budget) {
        if (budget < 0) {
            return 0;
        }
        List<int[]> list = new ArrayList<>();
        for (int r = 0; r < 12; r++) {
            if (kind[r] == OLD && live.containsKey(r) && usedWords(r) - live.get(r) > 0) {
                list.add(new int[] {r, usedWords(r) - live.get(r), 1 + live.get(r) + incoming(r)});
            }
        }
        list.sort(Comparator.<int[]>comparingInt(a -> a[0]));
        list.sort((a, b) -> Integer.compare(b[1] * a[2], a[1] * b[2]));
        int sum = 0;
        int bits = 0;
        for (int[] one : list) {
            if ((long) sum + one[2] <= budget) {
                sum += one[2];
                bits += 1 << one[0];
            } else {
                note("chosen passes one over");
            }
        }
        if (Integer.bitCount(bits) > 1) {
            note("several chosen");
        }
        return bits;
    }

    int serial(int root) {
        return in(root, 0, 5) ? roots[root] : -1;
    }

    private boolean none(int root) {
        return !in(root, 0, 5) || roots[root] == 0;
    }

    int region(int root) {
        return none(root) ? -1 : addressOf(roots[root]) / 16;
    }

    int offset(int root) {
        return none(root) ? -1 : addressOf(roots[root]) % 16;
    }

    int size(int root) {
        return none(root) ? -1 : thing(roots[root]).size;
    }

    int kind(int region) {
        return in(region, 0, 11) ? kind[region] : -1;
    }

    int used(int region) {
        return in(region, 0, 11) ? usedWords(region) : -1;
    }

    int live(int region) {
        return live.getOrDefault(region, -1);
    }

    int incoming(int region) {
        if (!in(region, 0, 11)) {
            return -1;
        }
        int sum = 0;
        for (Map.Entry<Integer, Thing> e : byAddress.entrySet()) {
            for (int ref : e.getValue().refs) {
                if (ref != 0 && e.getKey() / 16 != region && addressOf(ref) / 16 == region) {
                    sum++;
                }
            }
        }
        return sum;
    }

    int count(int which) {
        return in(which, 0, 3) ? counts[which] : -1;
    }
}
