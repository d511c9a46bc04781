/**
 * The boundary cases of reading a tape: holes, what is taken, refs and sizes (part 1 of the
 * terms), and promises 1 to 7. Each method has the sentence that it tests above it.
 */
public final class ReadingBoundaryTest {
    private static final int NONE = PictureReader.NONE;
    private static final int MIN = Integer.MIN_VALUE;
    private static final int MAX = Integer.MAX_VALUE;

    private ReadingBoundaryTest() {
    }

    public static void main(String[] args) {
        holeUpToTheNextMark();
        holeIsSearchedBehindItsPlace();
        holeOfAllBytes();
        numberTakenOnce();
        refusedLeavesNothing();
        sixHundredThings();
        hundredRoots();
        threeThousandRefs();
        fortyKinds();
        unknownRefs();
        sizes();
        newObject();
        feedUpTo8000();
        feedBytes();
        endOfTheTape();
        readOfNothing();
        readAnew();
        readOverAnother();
        limitsBeginAnew();
        readRefused();
        aboutEdges();
        eachByteAccountedFor();
        holeEdges();
        mostHoles();
        thingEdges();
        lastOf512Calls();
        Due.finish();
    }

    // ---- "else there is a HOLE"

    /** "from there up to the next MARK .., that one left out, or to the end" */
    private static void holeUpToTheNextMark() {
        PictureReader x = new TapeMaker().bytes(7, 7, 7, 10, 10, 8, 10, 9, 9).reader();
        int[][] due = {{0, 3}, {5, 1}, {7, 2}};
        Due.is("holes", x.about(0, 4), due.length);
        for (int i = 0; i < due.length; i++) {
            Due.is("where", x.hole(0, i, 0), due[i][0]);
            Due.is("how many", x.hole(0, i, 1), due[i][1]);
        }
        Due.is("marks", x.about(0, 3), 3);
        Due.is("bytes in holes", x.about(0, 5), 6);
    }

    /** "the next MARK behind that place": also one that is inside the torn RECORD */
    private static void holeIsSearchedBehindItsPlace() {
        // A row with a truth that is 2; its 10s are marks then, and a root stands between them.
        PictureReader x = new TapeMaker()
                .bytes(82, 0, 1, 4, 0, 7, 10, 65, 0, 0, 1, 10, 2).mark().row(1, 0, 0).reader();
        Due.is("read", x.about(0, 1), 2);
        Due.is("the root inside", x.about(0, 8), 1);
        Due.is("holes", x.about(0, 4), 2);
        Due.is("the first", x.hole(0, 0, 1), 6);
        Due.is("the second", x.hole(0, 1, 0), 12);
        Due.is("the second", x.hole(0, 1, 1), 1);
        Due.is("alive", x.alive(0, 1), 1);
        // Number 10 is taken: the hole ends at the 10 in its own number.
        PictureReader y = new TapeMaker().soft(10, 0).bytes(83, 0, 10, 0, 0).mark().reader();
        Due.is("the hole before the 10", y.hole(0, 0, 1), 2);
        Due.is("the hole behind the 10", y.hole(0, 1, 0), 9);
        Due.is("the hole behind the 10", y.hole(0, 1, 1), 2);
    }

    /** "up to the next MARK .. or to the end": the largest one */
    private static void holeOfAllBytes() {
        PictureReader x = new TapeMaker().bytes(Records.filled(8000, 255)).reader();
        Due.is("one hole", x.about(0, 4), 1);
        Due.is("where", x.hole(0, 0, 0), 0);
        Due.is("8000 bytes", x.hole(0, 0, 1), 8000);
        Due.is("bytes in holes", x.about(0, 5), 8000);
        PictureReader y = new TapeMaker().bytes(7).reader();
        Due.is("a tape of one byte", y.hole(0, 0, 1), 1);
    }

    // ---- "A RECORD is TAKEN unless"

    /** "its number is taken already" */
    private static void numberTakenOnce() {
        Records.isHole("kind 0 again", 75, 0, 255, 0);
        Records.isHole("thing 1 again", 84, 0, 1, 0, 1);
        Records.isHole("row with the number of a thing", 82, 0, 1, 0, 0, 0);
        Records.isHole("soft with the number of a thing", 83, 0, 1, 0, 0);
        PictureReader x = new TapeMaker().kind(0, 255).row(5, 0, 0).soft(6, 0)
                .thing(5, 0).thing(6, 0).soft(5, 0).row(6, 0, 0).row(5, 1, 0).soft(6, 5)
                .root(0, 5).root(0, 5).reader();
        Due.is("things", x.about(0, 7), 2);
        Due.is("5 stays a row", x.told(0, 5, 0), 1);
        Due.is("of sort 0", x.told(0, 5, 1), 0);
        Due.is("6 stays soft", x.told(0, 6, 0), 2);
        Due.is("to none", x.ref(0, 6, 0), 0);
        Due.is("roots have no number", x.about(0, 8), 2);
        PictureReader y = new TapeMaker().kind(3, 255).kind(4, 3).kind(4, 255, 0).thing(3, 4)
                .reader();
        Due.is("kinds", y.about(0, 6), 2);
        Due.is("kind 4 stays", y.under(0, 4, 3), 1);
        Due.is("thing 3 is not kind 3", y.told(0, 3, 1), 4);
    }

    /** What is not TAKEN takes no number, no place among the 600 and no REFS. */
    private static void refusedLeavesNothing() {
        PictureReader x = new TapeMaker().kind(0, 255, 5, 4)
                .thing(1, 0, 0, 9, 2).thing(1, 0, 0, 7, 1)
                .kind(2, 255, 9).kind(2, 0, 5)
                .row(3, 4, 2, 1, 7).row(3, 5, 1, 0, 1)
                .thing(4, 2, 0, 8, 0, 0, 6).reader();
        Due.is("read", x.about(0, 1), 5);
        Due.is("thing 1", x.ref(0, 1, 0), 7);
        Due.is("values of 1", x.told(0, 1, 2), 2);
        Due.is("row 3", x.ref(0, 3, 0), 1);
        Due.is("values of 3", x.told(0, 3, 2), 1);
        Due.is("thing 4", x.ref(0, 4, 1), 6);
        Due.is("unknown", x.about(0, 9), 3);
    }

    /** "a THING, ROW or SOFT thing: there are 600 of these in the picture" */
    private static void sixHundredThings() {
        for (int last = 0; last < 3; last++) {
            TapeMaker tape = new TapeMaker().kind(0, 255);
            for (int i = 1; i <= 599; i++) {
                addOne(tape, i % 3, i);
            }
            addOne(tape, last, 1000);
            int most = tape.size();
            addOne(tape, 0, 2000);
            addOne(tape, 1, 2001);
            addOne(tape, 2, 2002);
            tape.root(0, 1000).kind(1, 0);
            PictureReader x = tape.reader();
            Due.is("things", x.about(0, 7), 600);
            Due.is("the 600th", x.thing(0, 599), 1000);
            Due.is("no 601st", x.thing(0, 600), NONE);
            Due.is("a thing more", x.alive(0, 2000), NONE);
            Due.is("a row more", x.alive(0, 2001), NONE);
            Due.is("a soft thing more", x.alive(0, 2002), NONE);
            Due.is("where the first is refused", x.hole(0, 0, 0), most);
            Due.is("three holes", x.about(0, 4), 3);
            Due.is("a root more", x.alive(0, 1000), 1);
            Due.is("a kind more", x.under(0, 1, 0), 1);
            Due.is("the 600th is found", x.told(0, 1000, 0), last);
        }
    }

    private static void addOne(TapeMaker tape, int sort, int number) {
        if (sort == 0) {
            tape.thing(number, 0);
        } else if (sort == 1) {
            tape.row(number, 0, 0);
        } else {
            tape.soft(number, 0);
        }
    }

    /** "a ROOT: there are 100" */
    private static void hundredRoots() {
        TapeMaker tape = new TapeMaker();
        for (int i = 0; i < 99; i++) {
            tape.root(i % 10, i < 50 ? 7 : 1000 + i);
        }
        tape.root(0, 8);
        int most = tape.size();
        tape.root(0, 9).root(0, 0).row(7, 0, 0).row(8, 0, 0).row(9, 0, 0);
        PictureReader x = tape.reader();
        Due.is("roots", x.about(0, 8), 100);
        Due.is("also those to the same thing", x.alive(0, 7), 1);
        Due.is("the 100th", x.alive(0, 8), 1);
        Due.is("the 101st", x.alive(0, 9), 0);
        Due.is("it is a hole", x.hole(0, 0, 0), most);
        Due.is("of four bytes", x.hole(0, 0, 1), 4);
        Due.is("unknown ones count", x.about(0, 9), 49);
        Due.is("things are still read", x.about(0, 7), 3);
    }

    /** "there would be more than 3000 REFS that are not 0 in the THINGS of the picture" */
    private static void threeThousandRefs() {
        int[] thousand = Records.filled(1000, 1);
        int[] all = Records.filled(999, 1);
        TapeMaker tape = new TapeMaker().kind(0, 255, 5, 5).refs(1, thousand).refs(2, thousand)
                .refs(3, all);
        PictureReader x = tape.node(4, 0, 1, 1).node(5, 0, 0, 77).node(6, 0, 0, 1).soft(7, 1)
                .refs(8, 1).soft(9, 0).refs(10, 0, 0).node(11, 0, 0, 0).root(0, 1).reader();
        Due.is("2999", x.told(0, 3, 5), 999);
        Due.is("3001 are too many", x.alive(0, 4), NONE);
        Due.is("3000, an unknown one too", x.alive(0, 5), 0);
        Due.is("one more in a thing", x.alive(0, 6), NONE);
        Due.is("one more in a soft thing", x.alive(0, 7), NONE);
        Due.is("one more in a row", x.alive(0, 8), NONE);
        Due.is("soft to none", x.alive(0, 9), 0);
        Due.is("a row of zeros", x.alive(0, 10), 0);
        Due.is("a thing of zeros", x.alive(0, 11), 0);
        Due.is("a root is no ref of a thing", x.alive(0, 1), 1);
        Due.is("all refs lead to 1", x.told(0, 1, 6), 2999);
        Due.is("one is unknown", x.about(0, 9), 1);
        Due.is("records", x.about(0, 1), 9);
        Due.is("a hole for each refused one", x.about(0, 4), 4);
        Due.is("the thing is one of eight bytes", x.hole(0, 0, 1), 8);
        Due.is("the soft thing is one of five", x.hole(0, 2, 1), 5);
        PictureReader y = new TapeMaker().refs(1, thousand).refs(2, thousand)
                .refs(3, Records.filled(500, 0)).refs(4, all).soft(5, 4).soft(6, 4).reader();
        Due.is("zeros do not count", y.alive(0, 4), 0);
        Due.is("the 3000th in a soft thing", y.alive(0, 5), 0);
        Due.is("the 3001st in a soft thing", y.alive(0, 6), NONE);
        PictureReader z = new TapeMaker().refs(1, thousand).refs(2, thousand).refs(3, thousand)
                .soft(4, 1).soft(5, 0).reader();
        Due.is("just 3000", z.about(0, 7), 4);
        Due.is("the 3001st", z.alive(0, 4), NONE);
    }

    /** "a KIND: its number (a byte, 0 .. 39)": all of them, each the parent of the next */
    private static void fortyKinds() {
        TapeMaker tape = new TapeMaker();
        for (int kind = 39; kind >= 0; kind--) {
            tape.kind(kind, kind == 39 ? 255 : kind + 1, Records.filled(12, 0));
        }
        int[] values = new int[480];
        for (int k = 0; k < values.length; k++) {
            values[k] = k % 100;
        }
        PictureReader x = tape.thing(1, 0, values).thing(2, 39, Records.filled(12, 5)).reader();
        Due.is("kinds", x.about(0, 6), 40);
        Due.is("things", x.about(0, 7), 2);
        Due.is("all values", x.told(0, 1, 2), 480);
        Due.is("the first", x.value(0, 1, 1), 1);
        Due.is("the last", x.value(0, 1, 479), 79);
        Due.is("none behind it", x.value(0, 1, 480), 0);
        Due.is("the lowest is under the highest", x.under(0, 0, 39), 1);
        Due.is("not the other way", x.under(0, 39, 0), 0);
    }

    /** "One is UNKNOWN if it is neither 0 nor the number of a THING that was read." */
    private static void unknownRefs() {
        PictureReader x = new TapeMaker().refs(1, 0, 1, 2, 3, 4, 65535).soft(2, 3).root(0, 2)
                .root(0, 3).root(0, 9).row(3, 0, 0).thing(4, 0).reader();
        // 4 is a hole, so 4 and 65535 are unknown in row 1, 9 in a root; 3 comes later.
        Due.is("unknown", x.about(0, 9), 3);
        Due.is("told all the same", x.ref(0, 1, 4), 4);
        Due.is("told all the same", x.ref(0, 1, 5), 65535);
        Due.is("3 is alive", x.alive(0, 3), 1);
        PictureReader twice = new TapeMaker().refs(1, 5, 5, 5).root(0, 5).root(1, 5).reader();
        Due.is("each is counted", twice.about(0, 9), 5);
        Due.is("none", new TapeMaker().refs(1, 0, 0).soft(2, 0).reader().about(0, 9), 0);
    }

    /** "8 and the bytes ..; 12 and the bytes ..; 12; each made up to a multiple of 8" */
    private static void sizes() {
        int[][] due = {{0, 8, 16}, {1, 16, 16}, {4, 16, 16}, {5, 16, 24}, {8, 16, 24}, {9, 24, 24},
            {12, 24, 24}};
        for (int[] row : due) {
            PictureReader x = new TapeMaker().kind(0, 255, Records.filled(row[0], 0))
                    .thing(1, 0, new int[row[0]]).row(2, 0, row[0], new int[row[0]]).reader();
            Due.is("a thing of " + row[0], x.told(0, 1, 3), row[1]);
            Due.is("a row of " + row[0], x.told(0, 2, 3), row[2]);
            Due.is("together " + row[0], x.about(0, 10), row[1] + row[2]);
        }
        Due.is("soft", new TapeMaker().soft(1, 0).reader().told(0, 1, 3), 16);
        PictureReader y = new TapeMaker().row(1, 0, 1000, new int[1000]).reader();
        Due.is("1012 are 1016", y.told(0, 1, 3), 1016);
    }

    // ---- promises 1 to 7

    /** "An empty TAPE; all pictures have nothing." */
    private static void newObject() {
        PictureReader x = new PictureReader();
        Due.is("no byte to keep", x.end(1), NONE);
        for (int p = 0; p < 3; p++) {
            for (int what = 0; what <= 12; what++) {
                Due.is("about " + what, x.about(p, what), 0);
            }
            Due.is("hole", x.hole(p, 0, 0), NONE);
            Due.is("thing", x.thing(p, 0), NONE);
            Due.is("told", x.told(p, 0, 0), NONE);
            Due.is("value", x.value(p, 0, 0), 0);
            Due.is("ref", x.ref(p, 0, 0), NONE);
            Due.is("under", x.under(p, 0, 0), NONE);
            Due.is("alive", x.alive(p, 0), NONE);
            Due.is("keeper", x.keeper(p, 0), NONE);
            Due.is("kept", x.kept(p, 0), NONE);
            Due.is("height", x.height(p, 0), NONE);
            Due.is("way", x.way(p, 0, 0), NONE);
            Due.is("groups", x.groups(p), 0);
            Due.is("group", x.group(p, 0, 0), NONE);
            Due.is("top", x.top(p, 0), NONE);
            Due.is("grown", x.grown(p, 0, 0), 0);
            for (int how = 0; how < 5; how++) {
                Due.is("differ", x.differ(p, 0, how), 0);
                Due.is("differs", x.differs(p, 0, how, 0), NONE);
            }
        }
        Due.is("step", x.step(0), NONE);
        Due.is("the first feed", x.feed(0, 0, 0, 0, 0), 20);
    }

    /** "NONE: more than 8000." */
    private static void feedUpTo8000() {
        PictureReader x = new PictureReader();
        for (int i = 1; i < 400; i++) {
            x.feed(0x0a0a0a0a, 0x0a0a0a0a, 0x0a0a0a0a, 0x0a0a0a0a, 0x0a0a0a0a);
        }
        Due.is("8000 bytes", x.feed(7, 7, 7, 7, 7), 8000);
        Due.is("8020 bytes", x.feed(1, 1, 1, 1, 1), NONE);
        for (int free = 0; free < 20; free++) {
            Due.is("end", x.end(8000 - free), 8000 - free);
            Due.is("free are " + free, x.feed(1, 1, 1, 1, 1), NONE);
            Due.is("none of them came", x.end(8000 - free + 1), NONE);
        }
        Due.is("end", x.end(7980), 7980);
        Due.is("8000 again", x.feed(0x0a0a0a0a, -1, -1, -1, 0x0a0a0a0a), 8000);
        Due.is("read", x.read(0), 0);
        Due.is("bytes", x.about(0, 0), 8000);
        Due.is("marks", x.about(0, 3), 7980 + 8);
        Due.is("one hole", x.hole(0, 0, 0), 7984);
        Due.is("of the last feed", x.hole(0, 0, 1), 12);
        Due.is("the tape is empty", x.feed(1, 1, 1, 1, 1), 20);
    }

    /** "Twenty bytes more .., the highest of each number first" */
    private static void feedBytes() {
        PictureReader x = new PictureReader();
        x.feed(0x52000100, 0x000e807f, 0xff000102, 0x03040506, 0x0708090a);
        Due.is("read", x.read(0), 1);
        long[] due = {-128, 127, -1, 0, 1, 2, 3, 4, 5, 6, 7, 8, 9, 10};
        for (int k = 0; k < due.length; k++) {
            Due.is("byte " + k, x.value(0, 1, k), due[k]);
        }
        PictureReader y = new PictureReader();
        y.feed(MIN, MAX, -1, 0, 0x0a000000);
        Due.is("read", y.read(0), 0);
        Due.is("the mark is byte 16", y.hole(0, 0, 1), 16);
        Due.is("three behind it", y.hole(0, 1, 1), 3);
    }

    /** "THE TAPE keeps its first n bytes: n. NONE." */
    private static void endOfTheTape() {
        PictureReader x = new PictureReader();
        Due.is("0 of nothing", x.end(0), 0);
        Due.is("1 of nothing", x.end(1), NONE);
        Due.is("-1 of nothing", x.end(-1), NONE);
        x.feed(0x0a0a0a0a, 0x07070707, 0, 0, 0);
        for (int n : new int[] {-1, 21, MIN, MAX, -20}) {
            Due.is("end " + n, x.end(n), NONE);
        }
        Due.is("all", x.end(20), 20);
        Due.is("19", x.end(19), 19);
        Due.is("20 are no more", x.end(20), NONE);
        Due.is("5", x.end(5), 5);
        Due.is("fed behind them", x.feed(0x0a000000, 0, 0, 0, 0), 25);
        Due.is("read", x.read(0), 0);
        Due.is("the first bytes stayed", x.about(0, 3), 5);
        Due.is("a hole of the fifth byte", x.hole(0, 0, 1), 1);
        Due.is("then the new ones", x.hole(0, 1, 0), 6);
        x.feed(-1, -1, -1, -1, -1);
        Due.is("none is kept", x.end(0), 0);
        Due.is("read", x.read(0), 0);
        Due.is("nothing is there", x.about(0, 0), 0);
    }

    /** "THE TAPE, which is empty then, is read as a picture" */
    private static void readOfNothing() {
        PictureReader x = new PictureReader();
        for (int p = 0; p < 3; p++) {
            Due.is("empty", x.read(p), 0);
        }
        PictureReader y = Records.base().root(0, 1).reader();
        Due.is("the tape is empty", y.end(1), NONE);
        Due.is("read again, into another", y.read(1), 0);
        Due.is("the first stays", y.about(0, 1), 3);
        Due.is("the second has nothing", y.about(1, 0), 0);
    }

    /** "(what it was before goes)" */
    private static void readAnew() {
        PictureReader x = new TapeMaker().bytes(7).mark().kind(0, 255, 5).kind(1, 0)
                .node(1, 0, 2).node(2, 1, 9).row(3, 0, 0).row(4, 0, 0).soft(5, 1)
                .root(0, 1).root(0, 8).reader();
        Due.is("before", x.about(0, 11), 2);
        Due.is("an empty tape", x.read(0), 0);
        for (int what = 0; what <= 12; what++) {
            Due.is("about " + what, x.about(0, what), 0);
        }
        for (int thing = 0; thing <= 9; thing++) {
            Due.is("thing", x.thing(0, thing), NONE);
            Due.is("top", x.top(0, thing), NONE);
            Due.is("told", x.told(0, thing, 6), NONE);
            Due.is("value", x.value(0, thing, 0), 0);
            Due.is("ref", x.ref(0, thing, 0), NONE);
            Due.is("alive", x.alive(0, thing), NONE);
            Due.is("keeper", x.keeper(0, thing), NONE);
            Due.is("kept", x.kept(0, thing), NONE);
            Due.is("height", x.height(0, thing), NONE);
            Due.is("way", x.way(0, thing, 1), NONE);
        }
        Due.is("hole", x.hole(0, 0, 0), NONE);
        Due.is("under", x.under(0, 1, 0), NONE);
        Due.is("groups", x.groups(0), 0);
        Due.is("grown", x.grown(1, 0, 0), 0);
        Due.is("differ", x.differ(1, 0, 0), 0);
        Due.is("kinds may come again", new TapeMaker().kind(1, 255).thing(1, 1).readInto(x, 0), 2);
        Due.is("the new one has no parent", x.told(0, 1, 2), 0);
        Due.is("nothing leads to it", x.told(0, 1, 6), 0);
        Due.is("dead", x.alive(0, 1), 0);
    }

    /** "(what it was before goes)": right from one picture to another, without an empty one */
    private static void readOverAnother() {
        PictureReader x = new TapeMaker().kind(0, 255, 5).kind(39, 0).node(1, 0, 2).node(2, 39, 3)
                .soft(3, 1).root(0, 1).root(0, 3).reader();
        new TapeMaker().kind(0, 255).thing(7, 0).row(8, 0, 0).refs(9, 7, 8).root(0, 9)
                .readInto(x, 0);
        Due.is("kind 0 came again", x.told(0, 7, 2), 0);
        Due.is("kind 39 went", x.under(0, 39, 39), NONE);
        Due.is("living", x.about(0, 11), 3);
        Due.is("way to 7", x.way(0, 7, 0), 2);
        Due.is("keeper of 7", x.keeper(0, 7), 9);
        new TapeMaker().refs(1, 2).refs(2, 1).refs(3).readInto(x, 0);
        for (int thing = 1; thing <= 3; thing++) {
            Due.is("no root: dead", x.alive(0, thing), 0);
            Due.is("no root: no way", x.way(0, thing, 0), 0);
            Due.is("no root: no soft way", x.way(0, thing, 1), 0);
        }
    }

    /** The 3000 REFS, 600 THINGS and 100 ROOTS are those of one picture, as it is now. */
    private static void limitsBeginAnew() {
        PictureReader x = new PictureReader();
        for (int p : new int[] {0, 0, 1}) {
            new TapeMaker().refs(1, Records.filled(1000, 1)).refs(2, Records.filled(550, 1))
                    .root(0, 1).readInto(x, p);
            Due.is("1550 refs in picture " + p, x.about(p, 7), 2);
        }
        PictureReader y = new PictureReader();
        for (int p : new int[] {0, 0, 1}) {
            TapeMaker tape = new TapeMaker();
            for (int i = 1; i <= 310; i++) {
                tape.soft(i, 0);
            }
            for (int i = 1; i <= 60; i++) {
                tape.root(0, i);
            }
            tape.readInto(y, p);
            Due.is("310 things in picture " + p, y.about(p, 7), 310);
            Due.is("60 roots in picture " + p, y.about(p, 8), 60);
        }
    }

    /** "NONE: no such picture (THE TAPE stays)." */
    private static void readRefused() {
        PictureReader x = Records.base().reader();
        TapeMaker.feed(x, new TapeMaker().row(7, 0, 0).toBytes());
        for (int p : new int[] {-1, 3, 4, 256, 65536, MIN, MAX}) {
            Due.is("read " + p, x.read(p), NONE);
        }
        Due.is("the picture stays", x.about(0, 7), 1);
        Due.is("the tape stays", x.read(2), 1);
        Due.is("read as it was", x.told(2, 7, 0), 1);
    }

    /** "Of a picture: 0 bytes, .. 12 their SIZES together. NONE." */
    private static void aboutEdges() {
        PictureReader x = Records.base().root(0, 1).reader();
        int[] due = {17, 3, 14, 3, 0, 0, 1, 1, 1, 0, 16, 1, 16};
        for (int what = 0; what <= 12; what++) {
            Due.is("about " + what, x.about(0, what), due[what]);
        }
        for (int what : new int[] {-1, 13, 14, 256, MIN, MAX}) {
            Due.is("about " + what, x.about(0, what), NONE);
        }
        for (int p : new int[] {-1, 3, MIN, MAX}) {
            Due.is("picture " + p, x.about(p, 0), NONE);
            Due.is("neither", x.about(p, 13), NONE);
        }
        Due.is("picture 2", x.about(2, 0), 0);
    }

    /** "each byte of the picture accounted for" */
    private static void eachByteAccountedFor() {
        PictureReader x = new TapeMaker().mark().bytes(1, 2).mark().kind(0, 255)
                .bytes(75, 0, 255, 0)
                .mark().mark().bytes(84, 0, 1, 0).reader();
        Due.is("records", x.about(0, 2), 8);
        Due.is("marks", x.about(0, 3), 5);
        Due.is("holes", x.about(0, 5), 6);
        Due.is("all", x.about(0, 0), 19);
    }

    /** "HOLE i (from 0 on, in their order): 0 where it begins, 1 how many bytes. NONE." */
    private static void holeEdges() {
        PictureReader x = new TapeMaker().bytes(1).mark().bytes(2, 2).reader();
        int[][] due = {{0, 0, 0}, {0, 1, 1}, {1, 0, 2}, {1, 1, 2}, {2, 0, NONE}, {2, 1, NONE},
            {-1, 0, NONE}, {0, 2, NONE}, {0, -1, NONE}, {MAX, 0, NONE}, {MIN, 0, NONE},
            {0, MAX, NONE}, {0, MIN, NONE}, {-1, -1, NONE}, {2, 2, NONE}};
        for (int[] row : due) {
            Due.is("hole " + row[0] + " " + row[1], x.hole(0, row[0], row[1]), row[2]);
        }
        Due.is("picture 3", x.hole(3, 0, 0), NONE);
        Due.is("picture -1", x.hole(-1, 0, 0), NONE);
        Due.is("picture 1 has none", x.hole(1, 0, 0), NONE);
        PictureReader whole = Records.base().reader();
        Due.is("no hole at all", whole.hole(0, 0, 0), NONE);
    }

    /** The most HOLES that a TAPE can have. */
    private static void mostHoles() {
        TapeMaker tape = new TapeMaker();
        for (int i = 0; i < 4000; i++) {
            tape.bytes(65).mark();
        }
        PictureReader x = tape.reader();
        Due.is("holes", x.about(0, 4), 4000);
        Due.is("their bytes", x.about(0, 5), 4000);
        Due.is("the last", x.hole(0, 3999, 0), 7998);
        Due.is("no more", x.hole(0, 4000, 0), NONE);
    }

    /** "Number of the i-th THING, in the order in which they were read. NONE." */
    private static void thingEdges() {
        PictureReader x = new TapeMaker().soft(9, 0).row(2, 0, 0).kind(0, 255).thing(65535, 0)
                .reader();
        int[][] due = {{0, 9}, {1, 2}, {2, 65535}, {3, NONE}, {-1, NONE}, {MAX, NONE}, {MIN, NONE}};
        for (int[] row : due) {
            Due.is("thing " + row[0], x.thing(0, row[0]), row[1]);
        }
        Due.is("picture 3", x.thing(3, 0), NONE);
        Due.is("picture -1", x.thing(-1, 0), NONE);
        Due.is("picture 1", x.thing(1, 0), NONE);
    }

    /** "An object is used for at most 512 calls after it has been made" */
    private static void lastOf512Calls() {
        PictureReader x = new PictureReader();
        for (int call = 1; call <= 400; call++) {
            x.feed(0x410000ff, 0x0a410000, 0xff0a4100, 0x00ff0a41, 0x0000ff0a);
        }
        Due.is("call 401: 100 roots", x.read(0), 100);
        for (int call = 402; call <= 511; call++) {
            Due.is("call " + call, x.about(0, 9), 100);
        }
        Due.is("call 512", x.hole(0, 1499, 1), 4);
    }
}
