import java.util.List;

/**
 * Every call with every mixture of numbers that lie at an edge, against NaiveReader: no call
 * throws, and each one answers what is due, also for numbers far outside of all that is said.
 * One object answers far more than 512 calls here, as no answer of this class hangs on their count.
 */
public final class EdgeGridTest {
    private static final int NONE = PictureReader.NONE;
    private static final int[] EDGES = {Integer.MIN_VALUE, Integer.MIN_VALUE + 1, -100000, -65536,
        -65535, -257, -256, -3, -2, -1, 0, 1, 2, 3, 4, 5, 6, 7, 8, 9, 10, 11, 12, 13, 38, 39, 40,
        41, 99, 100, 101, 127, 128, 254, 255, 256, 257, 599, 600, 601, 999, 1000, 1001, 2999, 3000,
        3999, 4000, 7999, 8000, 8001, 32767, 32768, 65534, 65535, 65536, 65537, 1 << 24,
        Integer.MAX_VALUE - 1, Integer.MAX_VALUE};

    private static final NaiveReader NAIVE = new NaiveReader();

    private EdgeGridTest() {
    }

    public static void main(String[] args) {
        PictureReader x = new PictureReader();
        compare(x, "new");
        load(x, 0, mixed());
        compare(x, "one picture");
        load(x, 1, many());
        load(x, 2, changed());
        compare(x, "three pictures");
        load(x, 1, new TapeMaker());
        compare(x, "an empty one again");
        Due.finish();
    }

    private static void load(PictureReader x, int picture, TapeMaker tape) {
        NAIVE.read(picture, tape.toBytes());
        Due.is("read", tape.readInto(x, picture), NAIVE.about(picture, 1));
    }

    private static TapeMaker mixed() {
        return new TapeMaker().bytes(1, 2, 3).mark().kind(0, 255, 5, 0).kind(39, 0, 3).kind(10, 39)
                .thing(65535, 10, 0, 1, 200, 1, 2, 3, 4, 5, 6, 7, 8).thing(1, 0, 0, 2, 9)
                .refs(2, 256, 0, 255, 65534, 1).soft(256, 600).row(600, 1, 2, 255, 255, 0, 1)
                .row(255, 1, 2, 255, 255, 0, 1).row(599, 0, 0).root(0, 1).root(9, 600)
                .root(1, 65534).bytes(84, 0);
    }

    private static TapeMaker many() {
        TapeMaker tape = new TapeMaker().kind(0, 255, 5);
        for (int i = 1; i <= 601; i++) {
            tape.node(i, 0, i % 7 == 0 ? 0 : i + 1);
        }
        for (int i = 1; i <= 101; i++) {
            tape.root(0, i * 6);
        }
        return tape;
    }

    private static TapeMaker changed() {
        return new TapeMaker().kind(0, 255, 5, 0).kind(39, 0, 3).kind(1, 255)
                .thing(1, 0, 0, 2, 9).refs(2, 256, 0, 255, 65534, 2).row(256, 5, 1, 2, 88)
                .row(600, 1, 2, 255, 255, 0, 1).row(255, 2, 1, 255, 255, 0, 1).thing(7, 1)
                .thing(65534, 1).root(0, 2);
    }

    private static boolean isPicture(int p) {
        return p >= 0 && p <= 2;
    }

    private static void compare(PictureReader x, String state) {
        for (int p : EDGES) {
            Due.is(state + " groups " + p, x.groups(p), isPicture(p) ? NAIVE.groups(p) : NONE);
            for (int a : EDGES) {
                compareTwo(x, state + " " + p + " " + a, p, a);
                for (int b : EDGES) {
                    compareThree(x, state + " " + p + " " + a + " " + b, p, a, b);
                }
            }
        }
        for (int k : EDGES) {
            Due.is(state + " step " + k, x.step(k), NAIVE.step(k));
        }
        for (int first : EDGES) {
            for (int second : EDGES) {
                comparePair(x, state + " " + first + " " + second, first, second);
            }
        }
    }

    private static void compareTwo(PictureReader x, String name, int p, int a) {
        boolean there = isPicture(p);
        Due.is(name + " about", x.about(p, a), there ? NAIVE.about(p, a) : NONE);
        Due.is(name + " thing", x.thing(p, a), there ? NAIVE.thing(p, a) : NONE);
        Due.is(name + " alive", x.alive(p, a), there ? NAIVE.alive(p, a) : NONE);
        Due.is(name + " keeper", x.keeper(p, a), there ? NAIVE.keeper(p, a) : NONE);
        Due.is(name + " kept", x.kept(p, a), there ? NAIVE.kept(p, a) : NONE);
        Due.is(name + " height", x.height(p, a), there ? NAIVE.height(p, a) : NONE);
        Due.is(name + " top", x.top(p, a), there ? NAIVE.top(p, a) : NONE);
    }

    private static void compareThree(PictureReader x, String name, int p, int a, int b) {
        boolean there = isPicture(p);
        Due.is(name + " hole", x.hole(p, a, b), there ? NAIVE.hole(p, a, b) : NONE);
        Due.is(name + " told", x.told(p, a, b), there ? NAIVE.told(p, a, b) : NONE);
        Due.is(name + " value", x.value(p, a, b), there ? NAIVE.value(p, a, b) : 0);
        Due.is(name + " ref", x.ref(p, a, b), there ? NAIVE.ref(p, a, b) : NONE);
        Due.is(name + " under", x.under(p, a, b), there ? NAIVE.under(p, a, b) : NONE);
        Due.is(name + " way", x.way(p, a, b), there ? NAIVE.way(p, a, b) : NONE);
        Due.is(name + " group", x.group(p, a, b), there ? NAIVE.group(p, a, b) : NONE);
    }

    private static void comparePair(PictureReader x, String name, int first, int second) {
        boolean there = isPicture(first) && isPicture(second);
        for (int a : EDGES) {
            boolean isHow = there && a >= 0 && a <= 4;
            List<Integer> found = isHow ? NAIVE.differences(first, second, a) : List.of();
            Due.is(name + " differ " + a, x.differ(first, second, a), isHow ? found.size() : NONE);
            for (int i : EDGES) {
                boolean one = i >= 0 && i < found.size();
                Due.is(name + " differs " + a + " " + i, x.differs(first, second, a, i),
                        one ? found.get(i) : NONE);
            }
            boolean isKind = there && a >= 0 && a <= 39;
            Due.is(name + " grown " + a, x.grown(first, second, a),
                    isKind ? NAIVE.grown(first, second, a) : -100000);
        }
    }
}
