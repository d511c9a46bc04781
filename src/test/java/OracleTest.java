import java.util.ArrayList;
import java.util.Arrays;
import java.util.List;
import java.util.Random;

/** Random tapes, whole and torn, read by PictureReader and by NaiveReader: all answers agree. */
public final class OracleTest {
    private static final int[] WIDTH = {1, 2, 4, 8, 1, 2};
    private final Random random;
    private final PictureReader reader = new PictureReader();
    private final NaiveReader naive = new NaiveReader();
    private final String name;
    private final int[][] kindSorts = new int[40][];
    private int most;

    private OracleTest(long seed) {
        random = new Random(seed);
        name = "seed " + seed + ": ";
    }

    public static void main(String[] args) {
        int small = args.length > 0 ? Integer.parseInt(args[0]) : 400;
        int large = args.length > 1 ? Integer.parseInt(args[1]) : 12;
        for (int seed = 0; seed < 2 * small; seed++) {
            OracleTest test = new OracleTest(2000000L + seed);
            test.most = 2 + seed % 35;
            test.readAndCompare(0, test.makeNet());
        }
        for (int seed = 0; seed < small; seed++) {
            OracleTest test = new OracleTest(seed);
            test.run(3 + seed % 40, 40 + seed * 3 % 900);
            // Once more on the same object: nothing of the larger pictures may be left.
            test.run(3 + seed % 40, 20 + seed % 200);
        }
        for (int seed = 0; seed < large; seed++) {
            new OracleTest(1000000L + seed).run(30 + 60 * seed, 8000);
        }
        Due.finish();
    }

    private void run(int mostNumber, int mostBytes) {
        most = mostNumber;
        byte[] before = new byte[0];
        for (int picture = 0; picture < 3; picture++) {
            boolean changed = picture == 2 || picture == 1 && random.nextBoolean();
            byte[] tape = changed ? tear(before) : makeTape(mostBytes);
            if (random.nextInt(3) == 0) {
                tape = tear(tape);
            }
            before = tape;
            readAndCompare(picture, tape);
        }
        for (int first = 0; first < 3; first++) {
            for (int second = 0; second < 3; second++) {
                compareBoth(first, second);
            }
        }
    }

    private void readAndCompare(int picture, byte[] tape) {
        TapeMaker.feed(reader, tape);
        naive.read(picture, tape);
        Due.is(name + "read", reader.read(picture), naive.about(picture, 1));
        compare(picture);
    }

    /** Every number once, with refs to numbers that are near by: long ways, many keepers. */
    private byte[] makeNet() {
        List<Integer> numbers = new ArrayList<>();
        for (int i = 1; i <= most; i++) {
            numbers.add(i);
        }
        java.util.Collections.shuffle(numbers, random);
        int reach = 1 + random.nextInt(4);
        int back = random.nextInt(8);
        TapeMaker tape = new TapeMaker().kind(0, 255, 5, 5);
        for (int i = 0; i < most; i++) {
            int[] to = new int[2];
            for (int k = 0; k < 2; k++) {
                int step = 1 + random.nextInt(reach);
                int at = random.nextInt(10) < back ? i - random.nextInt(3) * step : i + step;
                to[k] = at < 0 || at >= most ? 0 : numbers.get(at);
            }
            if (random.nextInt(15) == 0) {
                tape.soft(numbers.get(i), to[0]);
            } else {
                tape.node(numbers.get(i), 0, to);
            }
        }
        tape.root(0, numbers.get(0));
        for (int i = random.nextInt(3); i > 0; i--) {
            tape.root(1, number());
        }
        return tape.toBytes();
    }

    private byte[] makeTape(int mostBytes) {
        Arrays.fill(kindSorts, null);
        TapeMaker tape = new TapeMaker();
        boolean manyRefs = random.nextBoolean();
        int rooted = 5 + random.nextInt(40);
        while (tape.size() < mostBytes) {
            int which = random.nextInt(100);
            if (tape.size() < 20 || which < 6) {
                addKind(tape, manyRefs);
            } else if (which < 6 + 100 / rooted) {
                tape.root(random.nextInt(10), number());
            } else if (which < 30) {
                addRow(tape);
            } else if (which < 36) {
                tape.soft(number(), ref());
            } else if (which < 38) {
                tape.bytes(random.nextInt(256));
            } else {
                addThing(tape);
            }
        }
        return Arrays.copyOf(tape.toBytes(), Math.min(tape.size(), mostBytes));
    }

    private byte[] tear(byte[] tape) {
        byte[] torn = tape.clone();
        int holes = 1 + random.nextInt(1 + torn.length / 60);
        for (int i = 0; i < holes && torn.length > 0; i++) {
            int at = random.nextInt(torn.length);
            torn[at] = (byte) (random.nextInt(3) == 0 ? 10 : random.nextInt(256));
        }
        return random.nextInt(3) > 0 ? torn : Arrays.copyOf(torn, random.nextInt(torn.length + 1));
    }

    private int number() {
        return 1 + random.nextInt(most);
    }

    private int ref() {
        return random.nextInt(5) == 0 ? 0 : number();
    }

    private void addKind(TapeMaker tape, boolean manyRefs) {
        int kind = random.nextInt(12);
        int parent = random.nextInt(14);
        boolean hasParent = parent < 12 && kindSorts[parent] != null;
        int[] own = new int[random.nextInt(5)];
        for (int i = 0; i < own.length; i++) {
            own[i] = manyRefs || random.nextInt(3) == 0 ? 5 : random.nextInt(6);
        }
        tape.kind(kind, hasParent ? parent : 255, own);
        if (kindSorts[kind] == null) {
            int[] above = hasParent ? kindSorts[parent] : new int[0];
            int[] all = Arrays.copyOf(above, above.length + own.length);
            System.arraycopy(own, 0, all, above.length, own.length);
            kindSorts[kind] = all;
        }
    }

    private void addThing(TapeMaker tape) {
        int kind = random.nextInt(12);
        int[] sorts = kindSorts[kind] == null ? new int[2] : kindSorts[kind];
        tape.thing(number(), kind, values(sorts));
    }

    private void addRow(TapeMaker tape) {
        int sort = random.nextInt(6);
        int count = random.nextInt(random.nextInt(10) == 0 ? 40 : 4);
        int[] sorts = new int[count];
        Arrays.fill(sorts, sort);
        tape.row(number(), sort, count, values(sorts));
    }

    private int[] values(int[] sorts) {
        List<Integer> bytes = new ArrayList<>();
        for (int sort : sorts) {
            if (sort == 5) {
                int ref = ref();
                bytes.add(ref >> 8);
                bytes.add(ref & 255);
                continue;
            }
            for (int i = 0; i < WIDTH[sort]; i++) {
                boolean few = sort == 4 || random.nextBoolean();
                bytes.add(few ? random.nextInt(2) : random.nextInt(256));
            }
        }
        return bytes.stream().mapToInt(b -> b).toArray();
    }

    private void compare(int p) {
        for (int what = -1; what <= 13; what++) {
            due("about", reader.about(p, what), naive.about(p, what));
        }
        for (int i = -1; i <= naive.about(p, 4); i++) {
            for (int what = -1; what <= 2; what++) {
                due("hole", reader.hole(p, i, what), naive.hole(p, i, what));
            }
        }
        for (int i = -1; i <= naive.about(p, 7); i++) {
            due("thing", reader.thing(p, i), naive.thing(p, i));
            due("top", reader.top(p, i), naive.top(p, i));
        }
        due("groups", reader.groups(p), naive.groups(p));
        for (int i = -1; i <= naive.groups(p); i++) {
            for (int what = -1; what <= 3; what++) {
                due("group", reader.group(p, i, what), naive.group(p, i, what));
            }
        }
        for (int kind = -1; kind <= 12; kind++) {
            for (int other = -1; other <= 12; other++) {
                due("under", reader.under(p, kind, other), naive.under(p, kind, other));
            }
        }
        for (int thing = -1; thing <= most + 1; thing++) {
            compareThing(p, thing);
        }
    }

    private void compareThing(int p, int thing) {
        for (int what = -1; what <= 7; what++) {
            due("told", reader.told(p, thing, what), naive.told(p, thing, what));
        }
        int values = Math.max(0, naive.told(p, thing, 2));
        for (int k = -1; k <= values; k++) {
            due("value", reader.value(p, thing, k), naive.value(p, thing, k));
            due("ref", reader.ref(p, thing, k), naive.ref(p, thing, k));
        }
        due("alive", reader.alive(p, thing), naive.alive(p, thing));
        due("keeper", reader.keeper(p, thing), naive.keeper(p, thing));
        due("kept", reader.kept(p, thing), naive.kept(p, thing));
        due("height", reader.height(p, thing), naive.height(p, thing));
        for (int soft = -1; soft <= 2; soft++) {
            int way = naive.way(p, thing, soft);
            due("way", reader.way(p, thing, soft), way);
            for (int k = -1; k <= Math.max(way, 2); k++) {
                due("step", reader.step(k), naive.step(k));
            }
        }
    }

    private void compareBoth(int first, int second) {
        for (int how = 0; how < 5; how++) {
            List<Integer> found = naive.differences(first, second, how);
            due("differ", reader.differ(first, second, how), found.size());
            for (int i = 0; i < found.size(); i++) {
                due("differs", reader.differs(first, second, how, i), found.get(i));
            }
            due("differs", reader.differs(first, second, how, found.size()), -1);
        }
        for (int kind = 0; kind < 40; kind++) {
            int grown = naive.grown(first, second, kind);
            due("grown", reader.grown(first, second, kind), grown);
        }
    }

    private void due(String call, long got, long want) {
        Due.is(name + call, got, want);
    }
}
