/**
 * The boundary cases of what is told of one picture: part 2 of the terms and promises 8 to 20.
 * Each method has the sentence of the document that it tests above it.
 */
public final class PictureBoundaryTest {
    private static final int NONE = PictureReader.NONE;
    private static final int MIN = Integer.MIN_VALUE;
    private static final int MAX = Integer.MAX_VALUE;
    private static final int[] NO_THINGS = {0, -1, 6, 65535, 65536, 65537, -65535, MIN, MAX};
    private static final int[] NO_PICTURES = {-1, 3, 256, 65536, MIN, MAX};

    private PictureBoundaryTest() {
    }

    public static void main(String[] args) {
        toldOfEachSort();
        toldRefused();
        refsThatLeadToAThing();
        valuesWithTheirSign();
        valueThatIsNone();
        refAsTold();
        refThatIsNone();
        kindUnderItself();
        kindNotRead();
        aliveByRoots();
        aliveByRefs();
        softRefsKeepNoneAlive();
        aliveRefused();
        keeperIsNone();
        keeperIsTheNearest();
        keeperLostStepByStep();
        keeperOfACycle();
        keeperRefused();
        keptOfItAlone();
        keptOfAll();
        heightOfOne();
        heightOfAChain();
        wayOfOne();
        wayThatIsNone();
        wayOfTheLeastNumbers();
        wayOverSoftThings();
        wayRefused();
        longestWay();
        stepsOfTheLastWay();
        stepThatIsNone();
        rowsThatAreLike();
        rowsThatAreNotLike();
        groupsOfTwoAtLeast();
        mostGroups();
        groupRefused();
        topOfTheLiving();
        topOfEqualOnes();
        topRefused();
        Due.finish();
    }

    /** A thing 1 of a kind, with a ref to row 2; row 2; soft 3; a dead row 4; a thing 5. */
    private static PictureReader five() {
        return new TapeMaker().kind(3, 255, 0, 5).kind(4, 255)
                .thing(1, 3, 200, 0, 2).row(2, 1, 2, 0, 7, 255, 255).soft(3, 5).row(4, 5, 1, 0, 1)
                .thing(5, 4).root(0, 1).root(0, 3).reader();
    }

    // ---- promise 8: told

    /** "of a ROW the SORT of its elements, of a SOFT thing 0 .. (of a SOFT thing 1)" */
    private static void toldOfEachSort() {
        PictureReader x = five();
        int[][] due = {{0, 3, 2, 16, 12, 1, 1}, {1, 1, 2, 16, 20, 0, 1}, {2, 0, 1, 16, 31, 1, 0},
            {1, 5, 1, 16, 37, 1, 0}, {0, 4, 0, 8, 46, 0, 1}};
        for (int thing = 1; thing <= 5; thing++) {
            for (int what = 0; what <= 6; what++) {
                Due.is("told " + thing + " " + what, x.told(0, thing, what), due[thing - 1][what]);
            }
        }
        PictureReader first = new TapeMaker().bytes(83, 0, 1, 0, 0).reader();
        Due.is("a record at the first byte", first.told(0, 1, 4), 0);
        PictureReader last = new TapeMaker().bytes(Records.filled(7995, 10))
                .bytes(83, 0, 1, 0, 0).reader();
        Due.is("a record at the last place", last.told(0, 1, 4), 7995);
    }

    /** "Of a THING, by its number: 0 .. 6. NONE." */
    private static void toldRefused() {
        PictureReader x = five();
        for (int what : new int[] {-1, 7, 8, 256, MIN, MAX}) {
            for (int thing = 1; thing <= 5; thing++) {
                Due.is("what " + what, x.told(0, thing, what), NONE);
            }
        }
        for (int thing : NO_THINGS) {
            for (int what = -1; what <= 7; what++) {
                Due.is("thing " + thing, x.told(0, thing, what), NONE);
            }
        }
        for (int p : NO_PICTURES) {
            Due.is("picture " + p, x.told(p, 1, 0), NONE);
        }
        Due.is("not in picture 1", x.told(1, 1, 0), NONE);
    }

    /** "5 how many REFS it has (also 0 and UNKNOWN ones); 6 how many REFS of THINGS lead to it" */
    private static void refsThatLeadToAThing() {
        PictureReader x = new TapeMaker().refs(1, 0, 1, 9, 2, 2).soft(2, 2).refs(3, 2)
                .row(4, 0, 2, 0, 2).root(0, 2).root(0, 4).reader();
        int[][] due = {{1, 5, 1}, {2, 1, 4}, {3, 1, 0}, {4, 0, 0}};
        for (int[] row : due) {
            Due.is("refs of " + row[0], x.told(0, row[0], 5), row[1]);
            Due.is("refs to " + row[0], x.told(0, row[0], 6), row[2]);
        }
    }

    // ---- promises 9 to 11: value, ref, under

    /** "a number with its sign (bytes and shorts, too), a truth as 0 or 1, a REF as told" */
    private static void valuesWithTheirSign() {
        long[][] ends = {{Byte.MIN_VALUE, Byte.MAX_VALUE}, {Short.MIN_VALUE, Short.MAX_VALUE},
            {MIN, MAX}, {Long.MIN_VALUE, Long.MAX_VALUE}, {0, 1}, {0, 65535}};
        int[] widths = {1, 2, 4, 8, 1, 2};
        for (int sort = 0; sort < 6; sort++) {
            long[] values = sort < 4
                    ? new long[] {ends[sort][0], ends[sort][1], -1, 0, 1, 10, -2, 100, -100}
                    : new long[] {ends[sort][0], ends[sort][1], 1, 0};
            int[] bytes = new int[values.length * widths[sort]];
            for (int i = 0; i < bytes.length; i++) {
                int low = (widths[sort] - 1 - i % widths[sort]) * 8;
                bytes[i] = (int) (values[i / widths[sort]] >> low) & 255;
            }
            PictureReader x = new TapeMaker()
                    .kind(0, 255, Records.filled(values.length, sort))
                    .thing(1, 0, bytes).row(2, sort, values.length, bytes).reader();
            for (int k = 0; k < values.length; k++) {
                Due.is("field of sort " + sort, x.value(0, 1, k), values[k]);
                Due.is("element of sort " + sort, x.value(0, 2, k), values[k]);
            }
        }
        PictureReader soft = new TapeMaker().soft(1, 65535).reader();
        Due.is("the ref of a soft thing", soft.value(0, 1, 0), 65535);
    }

    /** "0, if there is none such" */
    private static void valueThatIsNone() {
        PictureReader x = five();
        int[] counts = {2, 2, 1, 1, 0};
        for (int thing = 1; thing <= 5; thing++) {
            for (int k : new int[] {-1, counts[thing - 1], counts[thing - 1] + 1, 256, MIN, MAX}) {
                Due.is("value " + thing + " " + k, x.value(0, thing, k), 0);
            }
        }
        for (int thing : NO_THINGS) {
            Due.is("of " + thing, x.value(0, thing, 0), 0);
        }
        for (int p : NO_PICTURES) {
            Due.is("in " + p, x.value(p, 1, 0), 0);
        }
        Due.is("there is one", x.value(0, 1, 0), -56);
        Due.is("there is another", x.value(0, 2, 1), -1);
    }

    /** "REF k (from 0 on) of a THING, as told." */
    private static void refAsTold() {
        PictureReader x = new TapeMaker().kind(0, 255, 5, 0, 5).kind(1, 0, 3, 5)
                .thing(1, 1, 0, 0, 7, 255, 255, 0, 0, 0, 0, 0, 0, 0, 1, 0, 1)
                .row(2, 5, 3, 0, 0, 128, 0, 0, 2).soft(3, 0).reader();
        int[][] due = {{0, 65535, 1}, {0, 32768, 2}, {0}};
        for (int thing = 1; thing <= due.length; thing++) {
            for (int k = 0; k < due[thing - 1].length; k++) {
                Due.is("ref " + thing + " " + k, x.ref(0, thing, k), due[thing - 1][k]);
            }
        }
        Due.is("the second ref is the third value", x.value(0, 1, 2), 65535);
    }

    /** "NONE: there is none such." */
    private static void refThatIsNone() {
        PictureReader x = five();
        int[] counts = {1, 0, 1, 1, 0};
        for (int thing = 1; thing <= 5; thing++) {
            for (int k : new int[] {-1, counts[thing - 1], counts[thing - 1] + 1, 256, MIN, MAX}) {
                Due.is("ref " + thing + " " + k, x.ref(0, thing, k), NONE);
            }
        }
        for (int thing : NO_THINGS) {
            Due.is("of " + thing, x.ref(0, thing, 0), NONE);
        }
        for (int p : NO_PICTURES) {
            Due.is("in " + p, x.ref(p, 1, 0), NONE);
        }
        Due.is("there is one", x.ref(0, 1, 0), 2);
    }

    /** "Whether a KIND is another one, or under it (its PARENT, and so on, is): 1, 0." */
    private static void kindUnderItself() {
        PictureReader x = new TapeMaker().kind(0, 255).kind(39, 0).kind(1, 39).kind(2, 0).reader();
        int[][] due = {{0, 0, 1}, {39, 39, 1}, {1, 1, 1}, {39, 0, 1}, {1, 0, 1}, {1, 39, 1},
            {0, 39, 0}, {0, 1, 0}, {39, 1, 0}, {2, 39, 0}, {39, 2, 0}, {2, 1, 0}};
        for (int[] row : due) {
            Due.is("under " + row[0] + " " + row[1], x.under(0, row[0], row[1]), row[2]);
        }
    }

    /** "NONE: not both were read." */
    private static void kindNotRead() {
        PictureReader x = new TapeMaker().kind(0, 255).kind(1, 0).kind(2, 9).kind(39, 255).reader();
        for (int kind : new int[] {2, 9, -1, 40, 255, 256, 257, MIN, MAX}) {
            Due.is("first " + kind, x.under(0, kind, 0), NONE);
            Due.is("second " + kind, x.under(0, 0, kind), NONE);
            Due.is("both " + kind, x.under(0, kind, kind), NONE);
        }
        for (int p : NO_PICTURES) {
            Due.is("in " + p, x.under(p, 0, 0), NONE);
        }
        Due.is("not in picture 1", x.under(1, 0, 0), NONE);
        Due.is("both were read", x.under(0, 39, 0), 0);
    }

    // ---- promise 12: alive

    /** "ALIVE are the THINGS to which ROOTS lead" */
    private static void aliveByRoots() {
        PictureReader none = new TapeMaker().refs(1, 1).refs(2, 1).reader();
        Due.is("no root: none lives", none.about(0, 11), 0);
        Due.is("though refs lead to it", none.alive(0, 1), 0);
        PictureReader lost = new TapeMaker().row(1, 0, 0).root(0, 2).root(9, 256).reader();
        Due.is("roots that lead nowhere", lost.about(0, 11), 0);
        Due.is("dead", lost.alive(0, 1), 0);
        PictureReader all = new TapeMaker().root(0, 1).root(1, 2).root(2, 3).row(1, 0, 0)
                .soft(2, 9).kind(0, 255).thing(3, 0).reader();
        Due.is("each sort, roots first", all.about(0, 11), 3);
    }

    /** "and those to which REFS of living ones lead" */
    private static void aliveByRefs() {
        PictureReader x = new TapeMaker().refs(1, 0, 9, 2).refs(2, 1, 2, 3).refs(3).refs(4, 1, 5)
                .refs(5, 4).root(0, 1).reader();
        int[] due = {1, 1, 1, 0, 0};
        for (int thing = 1; thing <= 5; thing++) {
            Due.is("alive " + thing, x.alive(0, thing), due[thing - 1]);
        }
        PictureReader number = new TapeMaker().row(1, 1, 1, 0, 2).row(2, 0, 0).root(0, 1).reader();
        Due.is("a number is no ref", number.alive(0, 2), 0);
    }

    /** "but not those of SOFT things" */
    private static void softRefsKeepNoneAlive() {
        PictureReader x = new TapeMaker().soft(1, 2).row(2, 0, 0).refs(3, 4).soft(4, 5).soft(5, 3)
                .root(0, 1).root(0, 3).reader();
        int[] due = {1, 0, 1, 1, 0};
        for (int thing = 1; thing <= 5; thing++) {
            Due.is("alive " + thing, x.alive(0, thing), due[thing - 1]);
        }
    }

    /** "1 if a THING is ALIVE, else 0. NONE." */
    private static void aliveRefused() {
        PictureReader x = five();
        for (int thing : NO_THINGS) {
            Due.is("thing " + thing, x.alive(0, thing), NONE);
        }
        for (int p : NO_PICTURES) {
            Due.is("picture " + p, x.alive(p, 1), NONE);
        }
        Due.is("not in picture 2", x.alive(2, 1), NONE);
    }

    // ---- promises 13 to 15: keeper, kept, height

    /** "0 if there is none" */
    private static void keeperIsNone() {
        PictureReader x = new TapeMaker().refs(1, 1, 3).refs(2, 3, 4).refs(3).refs(4, 2)
                .root(0, 1).root(0, 2).root(1, 2).root(0, 4).reader();
        for (int thing = 1; thing <= 4; thing++) {
            Due.is("keeper of " + thing, x.keeper(0, thing), 0);
            Due.is("height of " + thing, x.height(0, thing), 1);
        }
        PictureReader dead = new TapeMaker().refs(1, 2).refs(2).refs(3, 2).root(0, 1).reader();
        Due.is("refs of dead things do not matter", dead.keeper(0, 2), 1);
        PictureReader soft = new TapeMaker().refs(1, 2).refs(2).soft(3, 2)
                .root(0, 1).root(0, 3).reader();
        Due.is("refs of soft things do not matter", soft.keeper(0, 2), 1);
        PictureReader root = new TapeMaker().refs(1, 2).refs(2).root(0, 1).root(0, 2).reader();
        Due.is("a root of its own", root.keeper(0, 2), 0);
    }

    /** "the one that needs all others of these for its own life, too (the nearest one)" */
    private static void keeperIsTheNearest() {
        PictureReader x = new TapeMaker().refs(9, 7).refs(7, 5, 6).refs(5, 3).refs(6, 3).refs(3, 1)
                .refs(1).root(0, 9).reader();
        int[][] due = {{9, 0, 1}, {7, 9, 2}, {5, 7, 3}, {6, 7, 3}, {3, 7, 3}, {1, 3, 4}};
        for (int[] row : due) {
            Due.is("keeper of " + row[0], x.keeper(0, row[0]), row[1]);
            Due.is("height of " + row[0], x.height(0, row[0]), row[2]);
        }
        // The shorter way is found first, yet the longer one leads past it.
        PictureReader longer = new TapeMaker().refs(1, 2, 3).refs(2, 6).refs(3, 4).refs(4, 5)
                .refs(5, 6).refs(6, 7).refs(7).root(0, 1).reader();
        Due.is("two ways of other lengths", longer.keeper(0, 6), 1);
        Due.is("behind them", longer.keeper(0, 7), 6);
        PictureReader twice = new TapeMaker().refs(1, 2, 2, 2).refs(2).root(0, 1).root(0, 1)
                .reader();
        Due.is("many refs of one thing", twice.keeper(0, 2), 1);
    }

    /** The same: what leads past a keeper is found out step by step, against the order of ways. */
    private static void keeperLostStepByStep() {
        // 2 leads to 10 .. 19, each of which leads to the one before it; a longer way, over 30 to
        // 33, leads to 19: so 2 is the keeper of none of them.
        TapeMaker tape = new TapeMaker().refs(1, 2, 30)
                .refs(2, 10, 11, 12, 13, 14, 15, 16, 17, 18, 19).refs(30, 31).refs(31, 32)
                .refs(32, 33).refs(33, 19).refs(20, 10);
        for (int i = 10; i <= 19; i++) {
            tape.refs(i, i - 1);
        }
        PictureReader x = tape.root(0, 1).reader();
        for (int i = 10; i <= 19; i++) {
            Due.is("keeper of " + i, x.keeper(0, i), 1);
            Due.is("height of " + i, x.height(0, i), 2);
            Due.is("kept of " + i, x.kept(0, i), 16);
        }
        Due.is("kept of 2", x.kept(0, 2), 12 + 20);
        Due.is("keeper of 33", x.keeper(0, 33), 32);
        Due.is("kept of 30", x.kept(0, 30), 64);
    }

    /** "of all living things y but x without which .. x would not be alive": not itself */
    private static void keeperOfACycle() {
        PictureReader x = new TapeMaker().refs(1, 2).refs(2, 3, 2).refs(3, 1, 2).root(0, 2)
                .reader();
        int[][] due = {{2, 0, 48}, {3, 2, 32}, {1, 3, 16}};
        for (int[] row : due) {
            Due.is("keeper of " + row[0], x.keeper(0, row[0]), row[1]);
            Due.is("kept of " + row[0], x.kept(0, row[0]), row[2]);
        }
        // Two ways into a cycle: neither of its things keeps the other.
        PictureReader y = new TapeMaker().refs(1, 2, 3).refs(2, 3).refs(3, 2).root(0, 1).reader();
        Due.is("keeper of 2", y.keeper(0, 2), 1);
        Due.is("keeper of 3", y.keeper(0, 3), 1);
    }

    /** "NONE: there is no such THING, or it is not ALIVE."; "NONE: likewise." */
    private static void keeperRefused() {
        PictureReader x = five();
        for (int thing : NO_THINGS) {
            Due.is("keeper of " + thing, x.keeper(0, thing), NONE);
            Due.is("kept of " + thing, x.kept(0, thing), NONE);
            Due.is("height of " + thing, x.height(0, thing), NONE);
        }
        for (int thing = 4; thing <= 5; thing++) {
            Due.is("keeper of a dead one", x.keeper(0, thing), NONE);
            Due.is("kept of a dead one", x.kept(0, thing), NONE);
            Due.is("height of a dead one", x.height(0, thing), NONE);
        }
        for (int p : NO_PICTURES) {
            Due.is("keeper in " + p, x.keeper(p, 1), NONE);
            Due.is("kept in " + p, x.kept(p, 1), NONE);
            Due.is("height in " + p, x.height(p, 1), NONE);
        }
        Due.is("keeper in picture 1", x.keeper(1, 1), NONE);
        Due.is("kept in picture 1", x.kept(1, 1), NONE);
        Due.is("height in picture 1", x.height(1, 1), NONE);
    }

    /** "KEPT of a living thing: the SIZES of it and of all living things that .." */
    private static void keptOfItAlone() {
        PictureReader x = new TapeMaker().kind(0, 255).thing(1, 0).soft(2, 3).refs(3, 4).refs(4)
                .refs(5, 5, 4).root(0, 1).root(0, 2).root(0, 4).root(0, 5).reader();
        Due.is("a thing without refs", x.kept(0, 1), 8);
        Due.is("a soft thing keeps no other", x.kept(0, 2), 16);
        Due.is("a dead one", x.kept(0, 3), NONE);
        Due.is("what others lead to", x.kept(0, 5), 16);
    }

    /** "together": also those behind others */
    private static void keptOfAll() {
        TapeMaker tape = new TapeMaker();
        for (int i = 1; i <= 599; i++) {
            tape.soft(i, 0);
        }
        int[] refs = new int[599];
        for (int i = 0; i < refs.length; i++) {
            refs[i] = i + 1;
        }
        PictureReader x = tape.refs(600, refs).root(0, 600).reader();
        int own = 12 + 2 * 599 + 6;
        Due.is("its own size", x.told(0, 600, 3), own);
        Due.is("of one that keeps all", x.kept(0, 600), own + 599 * 16);
        Due.is("all that live", x.about(0, 12), own + 599 * 16);
        Due.is("of one of them", x.kept(0, 599), 16);
        Due.is("its keeper", x.keeper(0, 599), 600);
    }

    /** "(1, if its KEEPER is 0)" */
    private static void heightOfOne() {
        PictureReader x = new TapeMaker().refs(1, 2).refs(2, 3).refs(3).refs(4, 3).root(0, 1)
                .root(0, 4).reader();
        int[] due = {1, 2, 1, 1};
        for (int thing = 1; thing <= 4; thing++) {
            Due.is("height of " + thing, x.height(0, thing), due[thing - 1]);
        }
    }

    /** "how often one goes from it to its KEEPER until one is at 0": the highest, against order */
    private static void heightOfAChain() {
        TapeMaker tape = new TapeMaker();
        for (int i = 1; i <= 600; i++) {
            tape.refs(i, i - 1);
        }
        PictureReader x = tape.root(0, 600).reader();
        Due.is("the first", x.height(0, 600), 1);
        Due.is("the last", x.height(0, 1), 600);
        Due.is("keeper of the last", x.keeper(0, 1), 2);
        Due.is("kept of the last", x.kept(0, 1), 16);
        Due.is("kept of the first", x.kept(0, 600), 600 * 16);
    }

    // ---- promises 16 and 17: way, step

    private static void isWay(PictureReader x, int thing, int soft, int... due) {
        Due.is("way to " + thing + ", soft " + soft, x.way(0, thing, soft), due.length);
        for (int k = 0; k < due.length; k++) {
            Due.is("step " + k + " to " + thing + ", soft " + soft, x.step(k), due[k]);
        }
        Due.is("step behind the way", x.step(due.length), NONE);
    }

    /** "it and the beginning counted": a THING to which a ROOT leads */
    private static void wayOfOne() {
        PictureReader x = new TapeMaker().refs(5, 5, 1).refs(1, 5).root(0, 5).root(0, 1).reader();
        isWay(x, 5, 0, 5);
        isWay(x, 1, 0, 1);
        isWay(x, 1, 1, 1);
    }

    /** "0: there is none" */
    private static void wayThatIsNone() {
        PictureReader x = new TapeMaker().refs(1, 4).refs(2, 1, 2).soft(3, 2).refs(4).root(0, 1)
                .root(0, 9).reader();
        Due.is("dead", x.way(0, 2, 0), 0);
        Due.is("dead, soft", x.way(0, 2, 1), 0);
        Due.is("dead soft thing", x.way(0, 3, 1), 0);
        Due.is("no step yet", x.step(0), NONE);
        isWay(x, 4, 0, 1, 4);
        Due.is("dead again", x.way(0, 2, 1), 0);
        Due.is("the last one with more than 0 stays", x.step(1), 4);
        PictureReader none = new TapeMaker().refs(1, 1).reader();
        Due.is("no root at all", none.way(0, 1, 1), 0);
    }

    /** "of several it is the one whose numbers, from its beginning, come first" */
    private static void wayOfTheLeastNumbers() {
        // All ways have four things: 3 1 9 20 is after 2 8 7 20, which is after 2 6 9 20.
        PictureReader x = new TapeMaker().refs(3, 1).refs(1, 9).refs(2, 8, 6).refs(8, 7).refs(6, 9)
                .refs(7, 20).refs(9, 20).refs(20).root(0, 3).root(0, 2).reader();
        isWay(x, 20, 0, 2, 6, 9, 20);
        isWay(x, 9, 0, 2, 6, 9);
        isWay(x, 7, 0, 2, 8, 7);
        // Fewer things come before less numbers.
        PictureReader y = new TapeMaker().refs(1, 2).refs(2, 30).refs(9, 30).refs(30).root(0, 1)
                .root(0, 9).reader();
        isWay(y, 30, 0, 9, 30);
        // The numbers count, not the order in which roots and refs stand there.
        PictureReader z = new TapeMaker().refs(300, 5, 256).refs(256, 7).refs(5, 7).refs(7)
                .refs(255, 256, 5).root(0, 300).root(0, 255).reader();
        isWay(z, 7, 0, 255, 5, 7);
    }

    /** "(of SOFT things only if that is told)" */
    private static void wayOverSoftThings() {
        PictureReader x = new TapeMaker().soft(1, 2).soft(2, 3).refs(3, 4).refs(4).refs(5, 6)
                .refs(6, 7).refs(7, 8).refs(8, 4).root(0, 1).root(0, 5).reader();
        isWay(x, 1, 0, 1);
        isWay(x, 4, 0, 5, 6, 7, 8, 4);
        isWay(x, 4, 1, 1, 2, 3, 4);
        isWay(x, 2, 1, 1, 2);
        Due.is("not over soft things", x.way(0, 2, 0), 0);
        Due.is("still dead", x.alive(0, 2), 0);
        PictureReader end = new TapeMaker().refs(1, 2).soft(2, 0).root(0, 1).reader();
        isWay(end, 2, 0, 1, 2);
    }

    /** "NONE: no such THING, soft." */
    private static void wayRefused() {
        PictureReader x = five();
        isWay(x, 2, 0, 1, 2);
        for (int soft : new int[] {-1, 2, 3, 256, MIN, MAX}) {
            Due.is("soft " + soft, x.way(0, 1, soft), NONE);
        }
        for (int thing : NO_THINGS) {
            Due.is("thing " + thing, x.way(0, thing, 0), NONE);
            Due.is("thing " + thing, x.way(0, thing, 1), NONE);
        }
        for (int p : NO_PICTURES) {
            Due.is("picture " + p, x.way(p, 1, 0), NONE);
        }
        Due.is("the way stays", x.step(0), 1);
        Due.is("the way stays", x.step(1), 2);
        Due.is("the way stays", x.step(2), NONE);
    }

    /** A WAY over all 600 THINGS, some of them SOFT. */
    private static void longestWay() {
        TapeMaker tape = new TapeMaker();
        for (int i = 1; i <= 600; i++) {
            tape.soft(i, i + 1);
        }
        PictureReader x = tape.root(0, 1).reader();
        Due.is("not without soft", x.way(0, 600, 0), 0);
        Due.is("600 things", x.way(0, 600, 1), 600);
        Due.is("the first", x.step(0), 1);
        Due.is("the last", x.step(599), 600);
        Due.is("none behind it", x.step(600), NONE);
    }

    /** "the WAY that way() found last with more than 0" */
    private static void stepsOfTheLastWay() {
        PictureReader x = new TapeMaker().refs(1, 2).refs(2, 3).refs(3).refs(4).root(0, 1).reader();
        isWay(x, 3, 0, 1, 2, 3);
        isWay(x, 1, 0, 1);
        Due.is("none", x.way(0, 4, 0), 0);
        Due.is("refused", x.way(0, 5, 0), NONE);
        Due.is("the last with more than 0", x.step(0), 1);
        Due.is("nothing of an older one", x.step(1), NONE);
        new TapeMaker().soft(70, 0).root(0, 70).readInto(x, 2);
        Due.is("reading another changes nothing", x.step(0), 1);
        Due.is("a way of another picture", x.way(2, 70, 1), 1);
        Due.is("is the last one", x.step(0), 70);
    }

    /** "NONE: there is none such." */
    private static void stepThatIsNone() {
        PictureReader x = five();
        Due.is("before any way", x.step(0), NONE);
        x.way(0, 2, 0);
        for (int k : new int[] {-1, 2, 3, 599, 600, 601, MIN, MAX}) {
            Due.is("step " + k, x.step(k), NONE);
        }
        Due.is("step 0", x.step(0), 1);
        Due.is("step 1", x.step(1), 2);
    }

    // ---- promises 18 and 19: groups, group

    /** "Two ROWS are LIKE if their SORTS, how many elements and all bytes .. are the same." */
    private static void rowsThatAreLike() {
        int[] widths = {1, 2, 4, 8, 1, 2};
        for (int sort = 0; sort < 6; sort++) {
            for (int n : new int[] {0, 1, 3}) {
                int[] bytes = Records.filled(n * widths[sort], 1);
                PictureReader x = new TapeMaker().row(2, sort, n, bytes).row(1, sort, n, bytes)
                        .root(0, 1).reader();
                Due.is("like, sort " + sort + ", of " + n, x.groups(0), 1);
                Due.is("the first", x.group(0, 0, 0), 2);
                Due.is("two", x.group(0, 0, 1), 2);
                Due.is("waste", x.group(0, 0, 2), x.told(0, 1, 3));
            }
        }
    }

    /** The same: with one of the three not being the same. */
    private static void rowsThatAreNotLike() {
        PictureReader x = new TapeMaker().row(1, 0, 0).row(2, 1, 0).row(3, 2, 0).row(4, 3, 0)
                .row(5, 4, 0).row(6, 5, 0)
                .row(7, 0, 2, 0, 1).row(8, 4, 2, 0, 1).row(9, 1, 1, 0, 1).row(10, 5, 1, 0, 1)
                .row(11, 0, 1, 0).row(12, 0, 3, 0, 1, 0).row(13, 0, 2, 1, 1).row(14, 0, 2, 0, 0)
                .kind(0, 255, 0, 0).thing(15, 0, 0, 1).thing(16, 0, 0, 1).soft(17, 1).soft(18, 1)
                .reader();
        Due.is("all are read", x.about(0, 7), 18);
        Due.is("no two of them are like", x.groups(0), 0);
        Due.is("no group", x.group(0, 0, 0), NONE);
        int[] zeros = new int[1000];
        int[] last = zeros.clone();
        last[999] = 1;
        int[] first = zeros.clone();
        first[0] = 1;
        PictureReader y = new TapeMaker().row(1, 0, 1000, zeros).row(2, 0, 1000, last)
                .row(3, 0, 1000, first).row(4, 0, 1000, last).reader();
        Due.is("the last byte matters", y.groups(0), 1);
        Due.is("those two", y.group(0, 0, 0), 2);
        Due.is("those two", y.group(0, 0, 1), 2);
        // Values that a sum of bytes, or of them with their place, could not tell apart.
        PictureReader z = new TapeMaker().row(1, 0, 2, 1, 2).row(2, 0, 2, 2, 1).row(3, 0, 2, 0, 33)
                .row(4, 0, 2, 1, 2).row(5, 3, 1, 0, 0, 0, 1, 0, 0, 0, 0)
                .row(6, 3, 1, 0, 0, 0, 0, 0, 0, 0, 1).reader();
        Due.is("one group", z.groups(0), 1);
        Due.is("its first", z.group(0, 0, 0), 1);
        Due.is("of two", z.group(0, 0, 1), 2);
    }

    /** "GROUPS are all ROWS that are like one another, two at least; WASTE .. of all but one" */
    private static void groupsOfTwoAtLeast() {
        PictureReader x = new TapeMaker().row(1, 0, 0).row(9, 0, 5, 1, 1, 1, 1, 1).row(8, 1, 0)
                .row(7, 1, 0).row(3, 0, 5, 1, 1, 1, 1, 1).row(4, 0, 5, 1, 1, 1, 1, 1).root(0, 8)
                .reader();
        int[][] due = {{9, 3, 48}, {8, 2, 16}};
        Due.is("groups", x.groups(0), 2);
        for (int i = 0; i < 2; i++) {
            for (int what = 0; what < 3; what++) {
                Due.is("group " + i + " " + what, x.group(0, i, what), due[i][what]);
            }
        }
        Due.is("no third", x.group(0, 2, 0), NONE);
        Due.is("none in an empty picture", x.groups(1), 0);
    }

    /** The most GROUPS, and the largest one. */
    private static void mostGroups() {
        TapeMaker tape = new TapeMaker();
        for (int i = 1; i <= 600; i++) {
            int half = (i - 1) / 2;
            tape.row(i, 1, 1, half >> 8, half);
        }
        PictureReader x = tape.reader();
        Due.is("groups", x.groups(0), 300);
        Due.is("the last", x.group(0, 299, 0), 599);
        Due.is("of two", x.group(0, 299, 1), 2);
        Due.is("none behind it", x.group(0, 300, 0), NONE);
        TapeMaker same = new TapeMaker();
        for (int i = 1; i <= 600; i++) {
            same.row(601 - i, 0, 0);
        }
        PictureReader y = same.reader();
        Due.is("one group", y.groups(0), 1);
        Due.is("its first", y.group(0, 0, 0), 600);
        Due.is("of all", y.group(0, 0, 1), 600);
        Due.is("waste", y.group(0, 0, 2), 599 * 16);
    }

    /** "How many GROUPS there are. NONE."; "Of GROUP i ..: 0 .. 2. NONE." */
    private static void groupRefused() {
        PictureReader x = new TapeMaker().row(1, 0, 0).row(2, 0, 0).reader();
        for (int p : NO_PICTURES) {
            Due.is("groups of " + p, x.groups(p), NONE);
            Due.is("group of " + p, x.group(p, 0, 0), NONE);
        }
        for (int i : new int[] {-1, 1, 2, 600, MIN, MAX}) {
            Due.is("group " + i, x.group(0, i, 0), NONE);
        }
        for (int what : new int[] {-1, 3, 4, MIN, MAX}) {
            Due.is("what " + what, x.group(0, 0, what), NONE);
        }
        Due.is("there is one", x.group(0, 0, 0), 1);
    }

    // ---- promise 20: top

    /** "The living THING that has KEPT i-th most (i from 0 on ..)" */
    private static void topOfTheLiving() {
        PictureReader x = new TapeMaker().row(1, 0, 100, new int[100]).refs(2, 3, 4).refs(3)
                .row(4, 0, 20, new int[20]).row(5, 0, 30, new int[30]).root(0, 2).root(0, 5)
                .reader();
        // 2 keeps 16 + 16 + 32, 5 has 48, 4 has 32, 3 has 16; 1, the largest, is dead.
        int[] due = {2, 5, 4, 3};
        for (int i = 0; i < due.length; i++) {
            Due.is("top " + i, x.top(0, i), due[i]);
        }
        Due.is("dead ones have none", x.top(0, 4), NONE);
        PictureReader dead = new TapeMaker().row(1, 0, 0).reader();
        Due.is("none lives", dead.top(0, 0), NONE);
    }

    /** "of several that of the least number first" */
    private static void topOfEqualOnes() {
        TapeMaker tape = new TapeMaker();
        for (int number : new int[] {300, 256, 9, 65535, 10, 255, 1}) {
            tape.soft(number, 0).root(0, number);
        }
        PictureReader x = tape.kind(0, 255, 5).node(400, 0, 401).node(401, 0, 0).kind(1, 255)
                .thing(2, 1).root(0, 400).root(0, 2).reader();
        int[] due = {400, 1, 9, 10, 255, 256, 300, 401, 65535, 2};
        for (int i = 0; i < due.length; i++) {
            Due.is("top " + i, x.top(0, i), due[i]);
        }
        Due.is("no more", x.top(0, due.length), NONE);
        TapeMaker all = new TapeMaker();
        int[] refs = new int[599];
        for (int i = 0; i < 599; i++) {
            all.soft(599 - i, 0);
            refs[i] = i + 1;
        }
        PictureReader y = all.refs(1000, refs).root(0, 1000).reader();
        Due.is("of 600 the first", y.top(0, 0), 1000);
        Due.is("of 600 the second", y.top(0, 1), 1);
        Due.is("of 600 the last", y.top(0, 599), 599);
        Due.is("no 601st", y.top(0, 600), NONE);
    }

    /** "its number. NONE." */
    private static void topRefused() {
        PictureReader x = five();
        for (int i : new int[] {-1, 3, 4, 5, 600, MIN, MAX}) {
            Due.is("top " + i, x.top(0, i), NONE);
        }
        for (int p : NO_PICTURES) {
            Due.is("picture " + p, x.top(p, 0), NONE);
        }
        Due.is("the last", x.top(0, 2), 3);
    }
}
