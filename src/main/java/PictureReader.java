/**
 * A reader of frozen memories: a picture of all things of a program comes as bytes,
 * also torn ones, and is read as far as it goes.
 *
 * <p>Every row is made in a constructor and used again; no call makes an object.
 */
public final class PictureReader {
    public static final int NONE = -1;

    private static final int PICTURES = 3;
    private static final int NO_GROWTH = -100000;
    private static final int RELATIONS = 5;

    private static final int MOST_BYTES = 8000;
    private static final int MOST_REFS = MOST_BYTES / 2;
    private static final int MOST_HOLES = MOST_BYTES / 2;
    private static final int MOST_KINDS = 40;
    private static final int MOST_FIELDS = 12;
    private static final int MOST_THINGS = 600;
    private static final int MOST_ELEMENTS = 1000;
    private static final int MOST_ROOTS = 100;
    private static final int MOST_REFS_SET = 3000;
    private static final int MOST_ROUNDS = 1000000;
    private static final int ROOT_SORTS = 10;
    private static final int NO_PARENT = 255;

    private static final int MARK = 10;
    private static final int KIND_RECORD = 75;
    private static final int THING_RECORD = 84;
    private static final int ROW_RECORD = 82;
    private static final int SOFT_RECORD = 83;
    private static final int ROOT_RECORD = 65;

    private static final int KIND_HEAD = 4;
    private static final int THING_HEAD = 4;
    private static final int ROW_HEAD = 6;
    private static final int SOFT_LENGTH = 5;
    private static final int ROOT_LENGTH = 4;

    private static final int OF_KIND = 0;
    private static final int ROW = 1;
    private static final int SOFT = 2;

    private static final int TRUTH_SORT = 4;
    private static final int REF_SORT = 5;
    private static final int[] WIDTHS = {1, 2, 4, 8, 1, 2};

    private final Tape tape;
    private final Picture[] pictures;
    private final Trail trail;

    public PictureReader() {
        tape = new Tape();
        trail = new Trail();
        pictures = new Picture[PICTURES];
        for (int i = 0; i < PICTURES; i++) {
            pictures[i] = new Picture();
        }
    }

    public int feed(int a, int b, int c, int d, int e) {
        if (!tape.hasRoom(20)) {
            return NONE;
        }
        tape.put(a);
        tape.put(b);
        tape.put(c);
        tape.put(d);
        tape.put(e);
        return tape.size();
    }

    public int end(int n) {
        if (n < 0 || n > tape.size()) {
            return NONE;
        }
        tape.cut(n);
        return n;
    }

    public int read(int picture) {
        Picture found = pictureAt(picture);
        if (found == null) {
            return NONE;
        }
        found.load(tape);
        tape.cut(0);
        return found.records;
    }

    public int about(int picture, int what) {
        Picture found = pictureAt(picture);
        return found == null ? NONE : found.count(what);
    }

    public int hole(int picture, int i, int what) {
        Picture found = pictureAt(picture);
        return found == null ? NONE : found.holes.tell(i, what);
    }

    public int thing(int picture, int i) {
        Picture found = pictureAt(picture);
        return found == null ? NONE : found.things.numberOf(i);
    }

    public int told(int picture, int thing, int what) {
        Picture found = pictureAt(picture);
        return found == null ? NONE : found.things.tell(found.things.find(thing), what);
    }

    public long value(int picture, int thing, int k) {
        Picture found = pictureAt(picture);
        return found == null ? 0 : found.things.valueOf(found.things.find(thing), k);
    }

    public int ref(int picture, int thing, int k) {
        Picture found = pictureAt(picture);
        return found == null ? NONE : found.things.refOf(found.things.find(thing), k);
    }

    public int under(int picture, int kind, int other) {
        Picture found = pictureAt(picture);
        if (found == null || !found.kinds.knows(kind) || !found.kinds.knows(other)) {
            return NONE;
        }
        return found.kinds.descends(kind, other) ? 1 : 0;
    }

    public int alive(int picture, int thing) {
        Picture found = pictureAt(picture);
        if (found == null) {
            return NONE;
        }
        int id = found.things.find(thing);
        if (id == NONE) {
            return NONE;
        }
        return found.life.lives(id) ? 1 : 0;
    }

    public int keeper(int picture, int thing) {
        Picture found = pictureAt(picture);
        return found == null ? NONE
                : found.life.keeperOf(found.things, found.things.find(thing));
    }

    public int kept(int picture, int thing) {
        Picture found = pictureAt(picture);
        return found == null ? NONE : found.life.keptOf(found.things.find(thing));
    }

    public int height(int picture, int thing) {
        Picture found = pictureAt(picture);
        return found == null ? NONE : found.life.heightOf(found.things.find(thing));
    }

    public int way(int picture, int thing, int soft) {
        Picture found = pictureAt(picture);
        if (found == null || soft < 0 || soft > 1) {
            return NONE;
        }
        int id = found.things.find(thing);
        if (id == NONE) {
            return NONE;
        }
        return trail.follow(found.things, soft == 1 ? found.softWays : found.ways, id);
    }

    public int step(int k) {
        return trail.numberAt(k);
    }

    public int groups(int picture) {
        Picture found = pictureAt(picture);
        return found == null ? NONE : found.twins.size();
    }

    public int group(int picture, int i, int what) {
        Picture found = pictureAt(picture);
        return found == null ? NONE : found.twins.tell(found.things, i, what);
    }

    public int top(int picture, int i) {
        Picture found = pictureAt(picture);
        return found == null ? NONE : found.things.numberOf(found.life.ranked(i));
    }

    public int differ(int first, int second, int how) {
        Picture one = pictureAt(first);
        Picture two = pictureAt(second);
        if (one == null || two == null || how < 0 || how >= RELATIONS) {
            return NONE;
        }
        int found = 0;
        for (int rank = 0; rank < MOST_THINGS; rank++) {
            if (relatedAt(one.things, two.things, how, rank) != NONE) {
                found++;
            }
        }
        return found;
    }

    public int differs(int first, int second, int how, int i) {
        Picture one = pictureAt(first);
        Picture two = pictureAt(second);
        if (one == null || two == null || how < 0 || how >= RELATIONS || i < 0) {
            return NONE;
        }
        int found = 0;
        for (int rank = 0; rank < MOST_THINGS; rank++) {
            int number = relatedAt(one.things, two.things, how, rank);
            if (number != NONE) {
                if (found == i) {
                    return number;
                }
                found++;
            }
        }
        return NONE;
    }

    public int grown(int first, int second, int kind) {
        Picture one = pictureAt(first);
        Picture two = pictureAt(second);
        if (one == null || two == null || kind < 0 || kind >= MOST_KINDS) {
            return NO_GROWTH;
        }
        return two.things.countOfKind(kind) - one.things.countOfKind(kind);
    }

    private Picture pictureAt(int picture) {
        return picture < 0 || picture >= PICTURES ? null : pictures[picture];
    }

    /** The number at a rank of the picture that has it in any case, if how is true of it. */
    private static int relatedAt(Things one, Things two, int how, int rank) {
        Things listed = how == 0 ? two : one;
        int number = listed.numberByRank(rank);
        return number != NONE && relation(one, two, number) == how ? number : NONE;
    }

    /** In which of the five ways of differ() a number, which is in one of both, stands in them. */
    private static int relation(Things one, Things two, int number) {
        int a = one.find(number);
        int b = two.find(number);
        if (a == NONE) {
            return 0;
        }
        if (b == NONE) {
            return 1;
        }
        if (!one.sameSort(a, two, b)) {
            return 2;
        }
        return one.sameValues(a, two, b) ? 4 : 3;
    }

    private static int widthOf(int sort) {
        return sort < 0 || sort >= WIDTHS.length ? 0 : WIDTHS[sort];
    }

    private static boolean isSort(int sort) {
        return sort >= 0 && sort < WIDTHS.length;
    }

    private static boolean isId(int id) {
        return id >= 0 && id < MOST_THINGS;
    }

    /** The bytes that come, until a picture is read from them. */
    private static final class Tape {
        private final byte[] bytes;
        private int length;

        Tape() {
            bytes = new byte[MOST_BYTES];
            length = 0;
        }

        int size() {
            return length;
        }

        boolean hasRoom(int more) {
            return more <= MOST_BYTES - length;
        }

        void put(int word) {
            for (int shift = 24; shift >= 0; shift -= 8) {
                if (length < MOST_BYTES) {
                    bytes[length] = (byte) (word >> shift);
                    length++;
                }
            }
        }

        void cut(int n) {
            if (n >= 0 && n < length) {
                length = n;
            }
        }

        /** The byte at a place, 0 to 255; NONE where the tape has none. */
        int at(int place) {
            return place < 0 || place >= length ? NONE : bytes[place] & 255;
        }

        /** The number of two bytes at a place; NONE where the tape has not both. */
        int pairAt(int place) {
            int high = at(place);
            int low = at(place + 1);
            return high == NONE || low == NONE ? NONE : high << 8 | low;
        }

        long valueAt(int place, int sort) {
            if (sort == REF_SORT) {
                return pairAt(place);
            }
            int width = widthOf(sort);
            long value = at(place) > 127 ? -1 : 0;
            for (int i = 0; i < width; i++) {
                value = value << 8 | (at(place + i) & 255);
            }
            return value;
        }

        /** Whether a record that ends just before a place is followed as it must be. */
        boolean closesAt(int place) {
            return place == length || at(place) == MARK;
        }

        /** How many bytes there are from a place, which is no mark, up to the next mark. */
        int tornFrom(int place) {
            int behind = place + 1;
            while (behind < length && at(behind) != MARK) {
                behind++;
            }
            return behind - place;
        }
    }

    /** The kinds of a picture: each knows its own fields, and how many it has from its parent. */
    private static final class Kinds {
        private final boolean[] known;
        private final int[] parents;
        private final int[] inherited;
        private final int[] counts;
        private final int[] widths;
        private final int[] ownSorts;
        private int count;

        Kinds() {
            known = new boolean[MOST_KINDS];
            parents = new int[MOST_KINDS];
            inherited = new int[MOST_KINDS];
            counts = new int[MOST_KINDS];
            widths = new int[MOST_KINDS];
            ownSorts = new int[MOST_KINDS * MOST_FIELDS];
            count = 0;
        }

        void clear() {
            for (int i = 0; i < MOST_KINDS; i++) {
                known[i] = false;
            }
            count = 0;
        }

        int size() {
            return count;
        }

        boolean knows(int kind) {
            return kind >= 0 && kind < MOST_KINDS && known[kind];
        }

        boolean admits(int kind, int parent) {
            return kind >= 0 && kind < MOST_KINDS && !known[kind]
                    && (parent == NO_PARENT || knows(parent));
        }

        void begin(int kind, int parent) {
            if (!admits(kind, parent)) {
                return;
            }
            boolean hasParent = parent != NO_PARENT;
            known[kind] = true;
            parents[kind] = hasParent ? parent : NONE;
            inherited[kind] = hasParent ? counts[parent] : 0;
            counts[kind] = inherited[kind];
            widths[kind] = hasParent ? widths[parent] : 0;
            count++;
        }

        void addField(int kind, int sort) {
            if (!knows(kind) || !isSort(sort)) {
                return;
            }
            int own = counts[kind] - inherited[kind];
            if (own >= 0 && own < MOST_FIELDS) {
                ownSorts[kind * MOST_FIELDS + own] = sort;
                counts[kind]++;
                widths[kind] += widthOf(sort);
            }
        }

        int countOf(int kind) {
            return knows(kind) ? counts[kind] : 0;
        }

        int bytesOf(int kind) {
            return knows(kind) ? widths[kind] : 0;
        }

        /** The sort of field k; the fields of the parents come first. */
        int sortOf(int kind, int k) {
            int owner = kind;
            for (int up = 0; up < MOST_KINDS && knows(owner); up++) {
                int own = k - inherited[owner];
                if (own >= 0) {
                    return own < MOST_FIELDS ? ownSorts[owner * MOST_FIELDS + own] : NONE;
                }
                owner = parents[owner];
            }
            return NONE;
        }

        boolean descends(int kind, int other) {
            int at = kind;
            for (int up = 0; up < MOST_KINDS && knows(at); up++) {
                if (at == other) {
                    return true;
                }
                at = parents[at];
            }
            return false;
        }
    }

    /** The places of a picture that could not be read. */
    private static final class Holes {
        private final int[] starts;
        private final int[] lengths;
        private int count;
        private int bytes;

        Holes() {
            starts = new int[MOST_HOLES];
            lengths = new int[MOST_HOLES];
            count = 0;
            bytes = 0;
        }

        void clear() {
            count = 0;
            bytes = 0;
        }

        void add(int start, int length) {
            if (count < MOST_HOLES) {
                starts[count] = start;
                lengths[count] = length;
                count++;
                bytes += length;
            }
        }

        int size() {
            return count;
        }

        int allBytes() {
            return bytes;
        }

        int tell(int i, int what) {
            if (i < 0 || i >= count) {
                return NONE;
            }
            switch (what) {
                case 0:
                    return starts[i];
                case 1:
                    return lengths[i];
                default:
                    return NONE;
            }
        }
    }

    /**
     * The things, rows and soft things of a picture. Inside the class a thing goes by its id,
     * which is its place in the order of reading; NONE is the id of no thing.
     */
    private static final class Things {
        private final int[] numbers;
        private final int[] sorts;
        private final int[] kinds;
        private final int[] places;
        private final int[] sizes;
        private final int[] pointers;
        private final int[] byNumber;
        // The values of id stand from valueStarts[id] up to valueStarts[id + 1]; refs likewise.
        private final int[] valueStarts;
        private final int[] refStarts;
        private final long[] values;
        private final int[] refs;
        private final int[] targets;
        private int count;
        private int refsSet;
        private int unknown;
        // The thing that is being read has its values behind those of the last one.
        private int valueEnd;
        private int refEnd;
        private boolean spoiled;

        Things() {
            numbers = new int[MOST_THINGS];
            sorts = new int[MOST_THINGS];
            kinds = new int[MOST_THINGS];
            places = new int[MOST_THINGS];
            sizes = new int[MOST_THINGS];
            pointers = new int[MOST_THINGS];
            byNumber = new int[MOST_THINGS];
            valueStarts = new int[MOST_THINGS + 1];
            refStarts = new int[MOST_THINGS + 1];
            values = new long[MOST_BYTES];
            refs = new int[MOST_REFS];
            targets = new int[MOST_REFS];
            count = 0;
            refsSet = 0;
            unknown = 0;
            valueEnd = 0;
            refEnd = 0;
            spoiled = false;
        }

        void clear() {
            count = 0;
            refsSet = 0;
            unknown = 0;
            valueStarts[0] = 0;
            refStarts[0] = 0;
        }

        int size() {
            return count;
        }

        boolean has(int id) {
            return id >= 0 && id < count;
        }

        boolean admits(int number) {
            return number >= 1 && count < MOST_THINGS && find(number) == NONE;
        }

        void begin() {
            valueEnd = valueStarts[count];
            refEnd = refStarts[count];
            spoiled = false;
        }

        void addValue(int sort, long value) {
            boolean wrong = sort == TRUTH_SORT && (value < 0 || value > 1);
            boolean full = valueEnd >= MOST_BYTES || sort == REF_SORT && refEnd >= MOST_REFS;
            if (wrong || full) {
                spoiled = true;
                return;
            }
            values[valueEnd] = value;
            valueEnd++;
            if (sort == REF_SORT) {
                refs[refEnd] = (int) value;
                refEnd++;
            }
        }

        /** Takes the thing that was begun, unless its values or the count of refs forbid it. */
        boolean keep(int number, int sort, int kind, int place, int bytes) {
            if (spoiled || count >= MOST_THINGS) {
                return false;
            }
            int set = refsSet + countSet(refStarts[count], refEnd);
            if (set > MOST_REFS_SET) {
                return false;
            }
            numbers[count] = number;
            sorts[count] = sort;
            kinds[count] = kind;
            places[count] = place;
            sizes[count] = (bytes + 7) / 8 * 8;
            pointers[count] = 0;
            refsSet = set;
            enlist(number);
            count++;
            valueStarts[count] = valueEnd;
            refStarts[count] = refEnd;
            return true;
        }

        private int countSet(int from, int to) {
            int set = 0;
            for (int at = from; at < to; at++) {
                if (refs[at] != 0) {
                    set++;
                }
            }
            return set;
        }

        private void enlist(int number) {
            int rank = countBelow(number);
            System.arraycopy(byNumber, rank, byNumber, rank + 1, count - rank);
            byNumber[rank] = count;
        }

        private int countBelow(int number) {
            int low = 0;
            int high = count;
            while (low < high) {
                int middle = (low + high) / 2;
                int id = byNumber[middle];
                if (has(id) && numbers[id] < number) {
                    low = middle + 1;
                } else {
                    high = middle;
                }
            }
            return low;
        }

        int find(int number) {
            int id = idByRank(countBelow(number));
            return numberOf(id) == number ? id : NONE;
        }

        int numberByRank(int rank) {
            return numberOf(idByRank(rank));
        }

        int idByRank(int rank) {
            return has(rank) ? byNumber[rank] : NONE;
        }

        /** Finds the thing to which each ref leads; only when all have been read can this be. */
        void connect() {
            int last = refStarts[count];
            for (int at = 0; at < last; at++) {
                int target = refs[at] == 0 ? NONE : find(refs[at]);
                targets[at] = target;
                if (has(target)) {
                    pointers[target]++;
                } else if (refs[at] != 0) {
                    unknown++;
                }
            }
        }

        int unknownRefs() {
            return unknown;
        }

        int numberOf(int id) {
            return has(id) ? numbers[id] : NONE;
        }

        int sizeOf(int id) {
            return has(id) ? sizes[id] : 0;
        }

        boolean isRow(int id) {
            return has(id) && sorts[id] == ROW;
        }

        boolean isSoft(int id) {
            return has(id) && sorts[id] == SOFT;
        }

        int valueCount(int id) {
            return has(id) ? valueStarts[id + 1] - valueStarts[id] : 0;
        }

        int refCount(int id) {
            return has(id) ? refStarts[id + 1] - refStarts[id] : 0;
        }

        long valueOf(int id, int k) {
            return k < 0 || k >= valueCount(id) ? 0 : values[valueStarts[id] + k];
        }

        int refOf(int id, int k) {
            return k < 0 || k >= refCount(id) ? NONE : refs[refStarts[id] + k];
        }

        /** The id to which ref k leads; NONE if it is 0 or unknown. */
        int targetOf(int id, int k) {
            return k < 0 || k >= refCount(id) ? NONE : targets[refStarts[id] + k];
        }

        int tell(int id, int what) {
            if (!has(id)) {
                return NONE;
            }
            switch (what) {
                case 0:
                    return sorts[id];
                case 1:
                    return kinds[id];
                case 2:
                    return valueCount(id);
                case 3:
                    return sizes[id];
                case 4:
                    return places[id];
                case 5:
                    return refCount(id);
                case 6:
                    return pointers[id];
                default:
                    return NONE;
            }
        }

        int allSizes() {
            int sum = 0;
            for (int id = 0; id < count; id++) {
                sum += sizes[id];
            }
            return sum;
        }

        int countOfKind(int kind) {
            int found = 0;
            for (int id = 0; id < count; id++) {
                if (sorts[id] == OF_KIND && kinds[id] == kind) {
                    found++;
                }
            }
            return found;
        }

        boolean sameSort(int id, Things others, int other) {
            return has(id) && others.has(other)
                    && sorts[id] == others.sorts[other] && kinds[id] == others.kinds[other];
        }

        boolean sameValues(int id, Things others, int other) {
            int size = valueCount(id);
            if (size != others.valueCount(other)) {
                return false;
            }
            for (int k = 0; k < size; k++) {
                if (valueOf(id, k) != others.valueOf(other, k)) {
                    return false;
                }
            }
            return true;
        }

        /** A number that is the same for things with the same values: most others have another. */
        int printOf(int id) {
            int size = valueCount(id);
            long print = size;
            for (int k = 0; k < size; k++) {
                print = print * 31 + valueOf(id, k);
            }
            return (int) (print ^ print >>> 32);
        }
    }

    /** The roots of a picture: only where they lead matters. */
    private static final class Roots {
        private final int[] refs;
        private final int[] targets;
        private int count;
        private int unknown;

        Roots() {
            refs = new int[MOST_ROOTS];
            targets = new int[MOST_ROOTS];
            count = 0;
            unknown = 0;
        }

        void clear() {
            count = 0;
            unknown = 0;
        }

        boolean admits(int sort, int ref) {
            return sort >= 0 && sort < ROOT_SORTS && ref >= 1 && count < MOST_ROOTS;
        }

        void add(int ref) {
            if (count < MOST_ROOTS) {
                refs[count] = ref;
                targets[count] = NONE;
                count++;
            }
        }

        void connect(Things things) {
            for (int i = 0; i < count; i++) {
                targets[i] = things.find(refs[i]);
                if (targets[i] == NONE) {
                    unknown++;
                }
            }
        }

        int size() {
            return count;
        }

        int unknownRefs() {
            return unknown;
        }

        int targetAt(int i) {
            return i < 0 || i >= count ? NONE : targets[i];
        }
    }

    /**
     * The shortest ways from the roots to all things. The line has the nearest things first, and
     * of equally near ones those whose ways come first: so whoever reaches a thing first is the
     * one before it on its way, if only those that one thing reaches stand by their numbers.
     */
    private static final class Spread {
        private final int[] line;
        private final int[] distances;
        private final int[] before;
        private int count;

        Spread() {
            line = new int[MOST_THINGS];
            distances = new int[MOST_THINGS];
            before = new int[MOST_THINGS];
            count = 0;
        }

        void settle(Things things, Roots roots, boolean soft) {
            count = 0;
            for (int id = 0; id < MOST_THINGS; id++) {
                distances[id] = 0;
                before[id] = NONE;
            }
            for (int i = 0; i < roots.size(); i++) {
                enter(things, roots.targetAt(i), NONE, 0);
            }
            for (int at = 0; at < MOST_THINGS && at < count; at++) {
                int id = line[at];
                if (soft || !things.isSoft(id)) {
                    leave(things, id);
                }
            }
        }

        private void leave(Things things, int id) {
            int refs = things.refCount(id);
            int first = count;
            for (int k = 0; k < refs; k++) {
                enter(things, things.targetOf(id, k), id, first);
            }
        }

        /** Puts a thing that is new into the line, by its number among those from first on. */
        private void enter(Things things, int id, int from, int first) {
            if (distanceOf(id) != 0 || count >= MOST_THINGS) {
                return;
            }
            int number = things.numberOf(id);
            int at = count;
            while (at > first && things.numberOf(line[at - 1]) > number) {
                line[at] = line[at - 1];
                at--;
            }
            line[at] = id;
            count++;
            before[id] = from;
            distances[id] = from == NONE ? 1 : distanceOf(from) + 1;
        }

        int size() {
            return count;
        }

        int idAt(int at) {
            return at < 0 || at >= count ? NONE : line[at];
        }

        /** How many things the way to a thing has; 0: there is no way; NONE: no such thing. */
        int distanceOf(int id) {
            return isId(id) ? distances[id] : NONE;
        }

        /** The thing before another one on the way to it; NONE: it begins there. */
        int beforeOf(int id) {
            return isId(id) ? before[id] : NONE;
        }
    }

    /** Which things are alive, and what each of them keeps. */
    private static final class Life {
        // The keeper of each living thing, by its id; NONE: there is none.
        private final int[] keepers;
        private final int[] heights;
        private final int[] kepts;
        private final int[] ranking;
        private int count;
        private int sizes;

        Life() {
            keepers = new int[MOST_THINGS];
            heights = new int[MOST_THINGS];
            kepts = new int[MOST_THINGS];
            ranking = new int[MOST_THINGS];
            count = 0;
            sizes = 0;
        }

        void settle(Things things, Spread spread) {
            for (int id = 0; id < MOST_THINGS; id++) {
                keepers[id] = spread.beforeOf(id);
                heights[id] = 0;
                kepts[id] = things.sizeOf(id);
            }
            boolean moved = true;
            for (int round = 0; moved && round < MOST_ROUNDS; round++) {
                moved = moveKeepers(things, spread);
            }
            measure(things, spread);
            rank(things);
        }

        /**
         * A keeper stands on every way to its thing. So it is looked for on the shortest way,
         * from its end on, and goes back as long as some ref leads past it: to the last thing
         * that the keepers of both ways, so far as they are known, have in common.
         */
        private boolean moveKeepers(Things things, Spread spread) {
            boolean moved = false;
            for (int at = 0; at < spread.size(); at++) {
                int from = spread.idAt(at);
                int refs = things.isSoft(from) ? 0 : things.refCount(from);
                for (int k = 0; k < refs; k++) {
                    int to = things.targetOf(from, k);
                    int keeper = keeperIdOf(to);
                    int shared = keeper == NONE ? NONE : lastShared(spread, keeper, from);
                    if (shared != keeper) {
                        keepers[to] = shared;
                        moved = true;
                    }
                }
            }
            return moved;
        }

        /** A keeper is nearer to the roots than its thing, so the farther of two goes back. */
        private int lastShared(Spread spread, int one, int other) {
            int a = one;
            int b = other;
            for (int i = 0; i < 2 * MOST_THINGS && a != b; i++) {
                if (spread.distanceOf(a) >= spread.distanceOf(b)) {
                    a = keeperIdOf(a);
                } else {
                    b = keeperIdOf(b);
                }
            }
            return a;
        }

        private int keeperIdOf(int id) {
            return isId(id) ? keepers[id] : NONE;
        }

        /** In the line of the ways each keeper stands before all that it keeps. */
        private void measure(Things things, Spread spread) {
            sizes = 0;
            for (int at = 0; at < spread.size(); at++) {
                int id = spread.idAt(at);
                int keeper = keeperIdOf(id);
                sizes += things.sizeOf(id);
                if (isId(id)) {
                    heights[id] = isId(keeper) ? heights[keeper] + 1 : 1;
                }
            }
            for (int at = spread.size() - 1; at >= 0; at--) {
                int id = spread.idAt(at);
                int keeper = keeperIdOf(id);
                if (isId(keeper)) {
                    kepts[keeper] += keptOf(id);
                }
            }
        }

        /** Things come by rising numbers, so one goes behind all that have kept as much. */
        private void rank(Things things) {
            count = 0;
            for (int next = 0; next < things.size(); next++) {
                int id = things.idByRank(next);
                if (lives(id) && count < MOST_THINGS) {
                    int at = count;
                    while (at > 0 && keptOf(ranking[at - 1]) < kepts[id]) {
                        ranking[at] = ranking[at - 1];
                        at--;
                    }
                    ranking[at] = id;
                    count++;
                }
            }
        }

        int size() {
            return count;
        }

        int allSizes() {
            return sizes;
        }

        boolean lives(int id) {
            return isId(id) && heights[id] > 0;
        }

        /** The number of the keeper of a living thing. */
        int keeperOf(Things things, int id) {
            if (!lives(id)) {
                return NONE;
            }
            return keepers[id] == NONE ? 0 : things.numberOf(keepers[id]);
        }

        int keptOf(int id) {
            return lives(id) ? kepts[id] : NONE;
        }

        int heightOf(int id) {
            return lives(id) ? heights[id] : NONE;
        }

        int ranked(int i) {
            return i < 0 || i >= count ? NONE : ranking[i];
        }
    }

    /** The groups of rows that are like one another, each by the first of its rows. */
    private static final class Twins {
        private final int[] heads;
        private final int[] members;
        private final int[] prints;
        private int count;

        Twins() {
            heads = new int[MOST_THINGS];
            members = new int[MOST_THINGS];
            prints = new int[MOST_THINGS];
            count = 0;
        }

        void settle(Things things) {
            count = 0;
            for (int id = 0; id < things.size(); id++) {
                if (things.isRow(id)) {
                    join(things, id);
                }
            }
            dropLone();
        }

        private void join(Things things, int id) {
            int print = things.printOf(id);
            for (int i = 0; i < count; i++) {
                if (prints[i] == print && things.sameSort(heads[i], things, id)
                        && things.sameValues(heads[i], things, id)) {
                    members[i]++;
                    return;
                }
            }
            if (count < MOST_THINGS) {
                heads[count] = id;
                members[count] = 1;
                prints[count] = print;
                count++;
            }
        }

        private void dropLone() {
            int left = 0;
            for (int i = 0; i < count; i++) {
                if (members[i] >= 2) {
                    heads[left] = heads[i];
                    members[left] = members[i];
                    left++;
                }
            }
            count = left;
        }

        int size() {
            return count;
        }

        int tell(Things things, int i, int what) {
            if (i < 0 || i >= count) {
                return NONE;
            }
            switch (what) {
                case 0:
                    return things.numberOf(heads[i]);
                case 1:
                    return members[i];
                case 2:
                    return (members[i] - 1) * things.sizeOf(heads[i]);
                default:
                    return NONE;
            }
        }
    }

    /** What was read from one tape, with all that can be told of it. */
    private static final class Picture {
        private final Kinds kinds;
        private final Things things;
        private final Roots roots;
        private final Holes holes;
        private final Spread ways;
        private final Spread softWays;
        private final Life life;
        private final Twins twins;
        private int bytes;
        private int records;
        private int recordBytes;
        private int marks;

        Picture() {
            kinds = new Kinds();
            things = new Things();
            roots = new Roots();
            holes = new Holes();
            ways = new Spread();
            softWays = new Spread();
            life = new Life();
            twins = new Twins();
            bytes = 0;
            records = 0;
            recordBytes = 0;
            marks = 0;
        }

        void load(Tape tape) {
            kinds.clear();
            things.clear();
            roots.clear();
            holes.clear();
            bytes = tape.size();
            records = 0;
            recordBytes = 0;
            marks = 0;
            int place = 0;
            while (place < bytes) {
                int length = take(tape, place);
                if (length > 0) {
                    records++;
                    recordBytes += length;
                } else {
                    length = passOver(tape, place);
                }
                place += Math.max(1, length);
            }
            things.connect();
            roots.connect(things);
            ways.settle(things, roots, false);
            softWays.settle(things, roots, true);
            life.settle(things, ways);
            twins.settle(things);
        }

        /** Passes over what is no record, a mark or a hole: how many bytes it has. */
        private int passOver(Tape tape, int place) {
            if (tape.at(place) == MARK) {
                marks++;
                return 1;
            }
            int torn = tape.tornFrom(place);
            holes.add(place, torn);
            return torn;
        }

        /** Takes the record at a place: its length; 0 if there is none to be taken. */
        private int take(Tape tape, int place) {
            switch (tape.at(place)) {
                case KIND_RECORD:
                    return takeKind(tape, place);
                case THING_RECORD:
                    return takeThing(tape, place);
                case ROW_RECORD:
                    return takeRow(tape, place);
                case SOFT_RECORD:
                    return takeSoft(tape, place);
                case ROOT_RECORD:
                    return takeRoot(tape, place);
                default:
                    return 0;
            }
        }

        private int takeKind(Tape tape, int place) {
            int kind = tape.at(place + 1);
            int parent = tape.at(place + 2);
            int fields = tape.at(place + 3);
            if (!kinds.admits(kind, parent) || fields < 0 || fields > MOST_FIELDS
                    || !tape.closesAt(place + KIND_HEAD + fields)) {
                return 0;
            }
            for (int k = 0; k < fields; k++) {
                if (!isSort(tape.at(place + KIND_HEAD + k))) {
                    return 0;
                }
            }
            kinds.begin(kind, parent);
            for (int k = 0; k < fields; k++) {
                kinds.addField(kind, tape.at(place + KIND_HEAD + k));
            }
            return KIND_HEAD + fields;
        }

        private int takeThing(Tape tape, int place) {
            int number = tape.pairAt(place + 1);
            int kind = tape.at(place + 3);
            int width = kinds.bytesOf(kind);
            if (!kinds.knows(kind) || !things.admits(number)
                    || !tape.closesAt(place + THING_HEAD + width)) {
                return 0;
            }
            things.begin();
            int at = place + THING_HEAD;
            int fields = kinds.countOf(kind);
            for (int k = 0; k < fields; k++) {
                int sort = kinds.sortOf(kind, k);
                things.addValue(sort, tape.valueAt(at, sort));
                at += widthOf(sort);
            }
            boolean taken = things.keep(number, OF_KIND, kind, place, 8 + width);
            return taken ? THING_HEAD + width : 0;
        }

        private int takeRow(Tape tape, int place) {
            int number = tape.pairAt(place + 1);
            int sort = tape.at(place + 3);
            int elements = tape.pairAt(place + 4);
            int width = elements * widthOf(sort);
            if (!isSort(sort) || elements < 0 || elements > MOST_ELEMENTS
                    || !things.admits(number) || !tape.closesAt(place + ROW_HEAD + width)) {
                return 0;
            }
            things.begin();
            for (int k = 0; k < elements; k++) {
                things.addValue(sort, tape.valueAt(place + ROW_HEAD + k * widthOf(sort), sort));
            }
            boolean taken = things.keep(number, ROW, sort, place, 12 + width);
            return taken ? ROW_HEAD + width : 0;
        }

        private int takeSoft(Tape tape, int place) {
            int number = tape.pairAt(place + 1);
            if (!things.admits(number) || !tape.closesAt(place + SOFT_LENGTH)) {
                return 0;
            }
            things.begin();
            things.addValue(REF_SORT, tape.valueAt(place + 3, REF_SORT));
            return things.keep(number, SOFT, 0, place, 12) ? SOFT_LENGTH : 0;
        }

        private int takeRoot(Tape tape, int place) {
            int ref = tape.pairAt(place + 2);
            if (!roots.admits(tape.at(place + 1), ref) || !tape.closesAt(place + ROOT_LENGTH)) {
                return 0;
            }
            roots.add(ref);
            return ROOT_LENGTH;
        }

        int count(int what) {
            switch (what) {
                case 0:
                    return bytes;
                case 1:
                    return records;
                case 2:
                    return recordBytes;
                case 3:
                    return marks;
                case 4:
                    return holes.size();
                case 5:
                    return holes.allBytes();
                case 6:
                    return kinds.size();
                case 7:
                    return things.size();
                case 8:
                    return roots.size();
                case 9:
                    return things.unknownRefs() + roots.unknownRefs();
                case 10:
                    return things.allSizes();
                case 11:
                    return life.size();
                case 12:
                    return life.allSizes();
                default:
                    return NONE;
            }
        }
    }

    /** The way that was found last: by its numbers, so that it outlives its picture. */
    private static final class Trail {
        private final int[] numbers;
        private int length;

        Trail() {
            numbers = new int[MOST_THINGS];
            length = 0;
        }

        int numberAt(int k) {
            return k < 0 || k >= length ? NONE : numbers[k];
        }

        /** Follows the way to a thing, from its end: how many things it has; 0: none, no way. */
        int follow(Things things, Spread spread, int id) {
            int distance = spread.distanceOf(id);
            if (distance <= 0 || distance > MOST_THINGS) {
                return 0;
            }
            length = distance;
            int at = id;
            for (int k = distance - 1; k >= 0; k--) {
                numbers[k] = things.numberOf(at);
                at = spread.beforeOf(at);
            }
            return length;
        }
    }
}
