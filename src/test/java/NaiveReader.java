import java.util.ArrayList;
import java.util.Arrays;
import java.util.Comparator;
import java.util.HashMap;
import java.util.HashSet;
import java.util.List;
import java.util.Map;
import java.util.Set;
import java.util.TreeMap;

/** The document's words, written down once more with sets and lists and no care for speed. */
final class NaiveReader {
    static final class Item {
        int number;
        int sort;
        int kind;
        int place;
        int size;
        byte[] body;
        final List<Long> values = new ArrayList<>();
        final List<Integer> refs = new ArrayList<>();
    }

    static final class Kind {
        Kind parent;
        final List<Integer> allSorts = new ArrayList<>();
    }

    static final class Shot {
        byte[] tape = new byte[0];
        int records;
        int recordBytes;
        int marks;
        final List<int[]> holes = new ArrayList<>();
        final Map<Integer, Kind> kinds = new HashMap<>();
        final Map<Integer, Item> items = new TreeMap<>();
        final List<Item> order = new ArrayList<>();
        final List<Integer> roots = new ArrayList<>();
        Set<Integer> living = new HashSet<>();
        final Map<Integer, Set<Integer>> needs = new HashMap<>();
        final Map<Integer, Integer> kept = new HashMap<>();
        final List<List<Item>> groups = new ArrayList<>();
    }

    private static final int[] WIDTH = {1, 2, 4, 8, 1, 2};
    final Shot[] shots = {new Shot(), new Shot(), new Shot()};
    private List<Integer> lastWay = List.of();

    void read(int picture, byte[] tape) {
        Shot shot = new Shot();
        shot.tape = tape;
        int place = 0;
        while (place < tape.length) {
            if (tape[place] == 10) {
                shot.marks++;
                place++;
                continue;
            }
            int length = recordLength(shot, place);
            if (length > 0) {
                shot.records++;
                shot.recordBytes += length;
                place += length;
                continue;
            }
            int next = place + 1;
            while (next < tape.length && tape[next] != 10) {
                next++;
            }
            shot.holes.add(new int[] {place, next - place});
            place = next;
        }
        settle(shot);
        shots[picture] = shot;
    }

    /** Tries every length: a record is whole if its own words make up just that length. */
    private static int recordLength(Shot shot, int place) {
        for (int to = place + 1; to <= shot.tape.length; to++) {
            boolean closed = to == shot.tape.length || shot.tape[to] == 10;
            if (closed && take(shot, place, Arrays.copyOfRange(shot.tape, place, to))) {
                return to - place;
            }
        }
        return 0;
    }

    private static boolean take(Shot shot, int place, byte[] record) {
        switch (record[0]) {
            case 75:
                return takeKind(shot, record);
            case 84:
                return takeThing(shot, place, record);
            case 82:
                return takeRow(shot, place, record);
            case 83:
                return record.length == 5
                        && takeItem(shot, place, record, 2, 0, List.of(5), 3, 12);
            case 65:
                return takeRoot(shot, record);
            default:
                return false;
        }
    }

    private static boolean takeKind(Shot shot, byte[] record) {
        if (record.length < 4 || record.length != 4 + record[3] || record[3] > 12) {
            return false;
        }
        int number = record[1] & 255;
        int parent = record[2] & 255;
        if (number > 39 || shot.kinds.containsKey(number)
                || parent != 255 && !shot.kinds.containsKey(parent)) {
            return false;
        }
        Kind kind = new Kind();
        if (parent != 255) {
            kind.parent = shot.kinds.get(parent);
            kind.allSorts.addAll(kind.parent.allSorts);
        }
        for (int i = 4; i < record.length; i++) {
            if (record[i] < 0 || record[i] > 5) {
                return false;
            }
            kind.allSorts.add((int) record[i]);
        }
        shot.kinds.put(number, kind);
        return true;
    }

    private static boolean takeThing(Shot shot, int place, byte[] record) {
        if (record.length < 4) {
            return false;
        }
        Kind kind = shot.kinds.get(record[3] & 255);
        return kind != null
                && takeItem(shot, place, record, 0, record[3] & 255, kind.allSorts, 4, 8);
    }

    private static boolean takeRow(Shot shot, int place, byte[] record) {
        if (record.length < 6 || record[3] < 0 || record[3] > 5) {
            return false;
        }
        int count = (record[4] & 255) * 256 + (record[5] & 255);
        if (count > 1000) {
            return false;
        }
        List<Integer> sorts = new ArrayList<>();
        for (int i = 0; i < count; i++) {
            sorts.add((int) record[3]);
        }
        return takeItem(shot, place, record, 1, record[3], sorts, 6, 12);
    }

    private static boolean takeItem(Shot shot, int place, byte[] record, int sort, int kind,
            List<Integer> sorts, int head, int base) {
        int width = 0;
        for (int s : sorts) {
            width += WIDTH[s];
        }
        int number = (record[1] & 255) * 256 + (record[2] & 255);
        if (record.length != head + width || number == 0 || shot.items.containsKey(number)
                || shot.order.size() == 600) {
            return false;
        }
        Item item = new Item();
        item.number = number;
        item.sort = sort;
        item.kind = kind;
        item.place = place;
        item.size = base + width;
        while (item.size % 8 != 0) {
            item.size++;
        }
        item.body = Arrays.copyOfRange(record, head, record.length);
        int at = 0;
        for (int s : sorts) {
            if (!addValue(item, s, Arrays.copyOfRange(item.body, at, at + WIDTH[s]))) {
                return false;
            }
            at += WIDTH[s];
        }
        long set = item.refs.stream().filter(r -> r != 0).count();
        for (Item other : shot.order) {
            set += other.refs.stream().filter(r -> r != 0).count();
        }
        if (set > 3000) {
            return false;
        }
        shot.items.put(number, item);
        shot.order.add(item);
        return true;
    }

    private static boolean addValue(Item item, int sort, byte[] bytes) {
        java.math.BigInteger signed = new java.math.BigInteger(bytes);
        java.math.BigInteger plain = new java.math.BigInteger(1, bytes);
        if (sort == 4 && plain.intValue() > 1) {
            return false;
        }
        item.values.add(sort >= 4 ? plain.longValue() : signed.longValue());
        if (sort == 5) {
            item.refs.add(plain.intValue());
        }
        return true;
    }

    private static boolean takeRoot(Shot shot, byte[] record) {
        if (record.length != 4 || record[1] < 0 || record[1] > 9 || shot.roots.size() == 100) {
            return false;
        }
        int ref = (record[2] & 255) * 256 + (record[3] & 255);
        if (ref == 0) {
            return false;
        }
        shot.roots.add(ref);
        return true;
    }

    private static Set<Integer> livingWithout(Shot shot, int gone) {
        Set<Integer> living = new HashSet<>();
        List<Integer> open = new ArrayList<>(shot.roots);
        while (!open.isEmpty()) {
            int number = open.remove(open.size() - 1);
            Item item = shot.items.get(number);
            if (item == null || number == gone || !living.add(number) || item.sort == 2) {
                continue;
            }
            open.addAll(item.refs);
        }
        return living;
    }

    private static void settle(Shot shot) {
        shot.living = livingWithout(shot, 0);
        for (int x : shot.living) {
            shot.needs.put(x, new HashSet<>());
        }
        for (int y : shot.living) {
            Set<Integer> left = livingWithout(shot, y);
            int kept = 0;
            for (int x : shot.living) {
                if (!left.contains(x)) {
                    kept += shot.items.get(x).size;
                    if (x != y) {
                        shot.needs.get(x).add(y);
                    }
                }
            }
            shot.kept.put(y, kept);
        }
        for (Item item : shot.order) {
            if (item.sort == 1) {
                seat(shot, item);
            }
        }
        shot.groups.removeIf(g -> g.size() < 2);
    }

    private static void seat(Shot shot, Item row) {
        for (List<Item> group : shot.groups) {
            Item first = group.get(0);
            if (first.kind == row.kind && first.values.size() == row.values.size()
                    && Arrays.equals(first.body, row.body)) {
                group.add(row);
                return;
            }
        }
        shot.groups.add(new ArrayList<>(List.of(row)));
    }

    int about(int picture, int what) {
        Shot shot = shots[picture];
        switch (what) {
            case 0: return shot.tape.length;
            case 1: return shot.records;
            case 2: return shot.recordBytes;
            case 3: return shot.marks;
            case 4: return shot.holes.size();
            case 5: return shot.holes.stream().mapToInt(h -> h[1]).sum();
            case 6: return shot.kinds.size();
            case 7: return shot.order.size();
            case 8: return shot.roots.size();
            case 9: return unknown(shot);
            case 10: return shot.order.stream().mapToInt(t -> t.size).sum();
            case 11: return shot.living.size();
            case 12: return shot.living.stream().mapToInt(n -> shot.items.get(n).size).sum();
            default: return -1;
        }
    }

    private static int unknown(Shot shot) {
        List<Integer> all = new ArrayList<>(shot.roots);
        shot.order.forEach(t -> all.addAll(t.refs));
        return (int) all.stream().filter(r -> r != 0 && !shot.items.containsKey(r)).count();
    }

    int hole(int picture, int i, int what) {
        List<int[]> holes = shots[picture].holes;
        return i < 0 || i >= holes.size() || what < 0 || what > 1 ? -1 : holes.get(i)[what];
    }

    int thing(int picture, int i) {
        List<Item> order = shots[picture].order;
        return i < 0 || i >= order.size() ? -1 : order.get(i).number;
    }

    int told(int picture, int thing, int what) {
        Item item = shots[picture].items.get(thing);
        if (item == null) {
            return -1;
        }
        switch (what) {
            case 0: return item.sort;
            case 1: return item.kind;
            case 2: return item.values.size();
            case 3: return item.size;
            case 4: return item.place;
            case 5: return item.refs.size();
            case 6:
                int all = 0;
                for (Item other : shots[picture].order) {
                    all += (int) other.refs.stream().filter(r -> r == thing).count();
                }
                return all;
            default: return -1;
        }
    }

    long value(int picture, int thing, int k) {
        Item item = shots[picture].items.get(thing);
        return item == null || k < 0 || k >= item.values.size() ? 0 : item.values.get(k);
    }

    int ref(int picture, int thing, int k) {
        Item item = shots[picture].items.get(thing);
        return item == null || k < 0 || k >= item.refs.size() ? -1 : item.refs.get(k);
    }

    int under(int picture, int kind, int other) {
        Kind at = shots[picture].kinds.get(kind);
        Kind goal = shots[picture].kinds.get(other);
        if (at == null || goal == null) {
            return -1;
        }
        while (at != null && at != goal) {
            at = at.parent;
        }
        return at == goal ? 1 : 0;
    }

    int alive(int picture, int thing) {
        if (!shots[picture].items.containsKey(thing)) {
            return -1;
        }
        return shots[picture].living.contains(thing) ? 1 : 0;
    }

    int keeper(int picture, int thing) {
        Shot shot = shots[picture];
        if (!shot.living.contains(thing)) {
            return -1;
        }
        for (int y : shot.needs.get(thing)) {
            Set<Integer> others = new HashSet<>(shot.needs.get(thing));
            others.remove(y);
            if (shot.needs.get(y).containsAll(others)) {
                return y;
            }
        }
        return 0;
    }

    int kept(int picture, int thing) {
        return shots[picture].kept.getOrDefault(thing, -1);
    }

    int height(int picture, int thing) {
        if (!shots[picture].living.contains(thing)) {
            return -1;
        }
        int height = 0;
        for (int at = thing; at != 0; at = keeper(picture, at)) {
            height++;
        }
        return height;
    }

    /** The ways are made longer by one thing at a time; each thing keeps the first of its own. */
    int way(int picture, int thing, int soft) {
        Shot shot = shots[picture];
        if (!shot.items.containsKey(thing) || soft < 0 || soft > 1) {
            return -1;
        }
        Map<Integer, List<Integer>> best = new HashMap<>();
        Map<Integer, List<Integer>> fresh = new HashMap<>();
        for (int root : shot.roots) {
            if (shot.items.containsKey(root)) {
                fresh.put(root, List.of(root));
            }
        }
        while (!fresh.isEmpty() && !fresh.containsKey(thing)) {
            best.putAll(fresh);
            Map<Integer, List<Integer>> next = new HashMap<>();
            for (List<Integer> way : fresh.values()) {
                Item last = shot.items.get(way.get(way.size() - 1));
                if (last.sort == 2 && soft == 0) {
                    continue;
                }
                for (int ref : last.refs) {
                    if (shot.items.containsKey(ref) && !best.containsKey(ref)) {
                        List<Integer> longer = new ArrayList<>(way);
                        longer.add(ref);
                        next.merge(ref, longer, NaiveReader::firstOf);
                    }
                }
            }
            fresh = next;
        }
        if (!fresh.containsKey(thing)) {
            return 0;
        }
        lastWay = fresh.get(thing);
        return lastWay.size();
    }

    private static List<Integer> firstOf(List<Integer> a, List<Integer> b) {
        for (int i = 0; i < a.size(); i++) {
            if (!a.get(i).equals(b.get(i))) {
                return a.get(i) < b.get(i) ? a : b;
            }
        }
        return a;
    }

    int step(int k) {
        return k < 0 || k >= lastWay.size() ? -1 : lastWay.get(k);
    }

    int groups(int picture) {
        return shots[picture].groups.size();
    }

    int group(int picture, int i, int what) {
        List<List<Item>> groups = shots[picture].groups;
        if (i < 0 || i >= groups.size() || what < 0 || what > 2) {
            return -1;
        }
        List<Item> group = groups.get(i);
        int waste = group.stream().skip(1).mapToInt(t -> t.size).sum();
        return new int[] {group.get(0).number, group.size(), waste}[what];
    }

    int top(int picture, int i) {
        Shot shot = shots[picture];
        List<Integer> all = new ArrayList<>(shot.living);
        all.sort(Comparator.<Integer>comparingInt(n -> -shot.kept.get(n)).thenComparingInt(n -> n));
        return i < 0 || i >= all.size() ? -1 : all.get(i);
    }

    List<Integer> differences(int first, int second, int how) {
        Map<Integer, Item> a = shots[first].items;
        Map<Integer, Item> b = shots[second].items;
        Set<Integer> all = new java.util.TreeSet<>(a.keySet());
        all.addAll(b.keySet());
        List<Integer> found = new ArrayList<>();
        for (int n : all) {
            int is;
            if (!a.containsKey(n)) {
                is = 0;
            } else if (!b.containsKey(n)) {
                is = 1;
            } else if (a.get(n).sort != b.get(n).sort || a.get(n).kind != b.get(n).kind) {
                is = 2;
            } else {
                is = a.get(n).values.equals(b.get(n).values) ? 4 : 3;
            }
            if (is == how) {
                found.add(n);
            }
        }
        return found;
    }

    int grown(int first, int second, int kind) {
        return countOf(second, kind) - countOf(first, kind);
    }

    private int countOf(int picture, int kind) {
        return (int) shots[picture].order.stream()
                .filter(t -> t.sort == 0 && t.kind == kind).count();
    }
}
