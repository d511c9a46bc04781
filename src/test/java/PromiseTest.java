/** Each promise of the document by hand-made tapes: ordinary inputs, edges, wrong inputs. */
public final class PromiseTest {
    private static final int NONE = PictureReader.NONE;
    private static final int MIN = Integer.MIN_VALUE;
    private static final int MAX = Integer.MAX_VALUE;

    private PromiseTest() {
    }

    public static void main(String[] args) {
        newObject();
        feed();
        end();
        read();
        about();
        holes();
        tornRecords();
        limits();
        thingAndTold();
        sizes();
        values();
        refs();
        under();
        alive();
        keepers();
        ways();
        steps();
        groups();
        top();
        differences();
        grown();
        wrongPictures();
        Due.finish();
    }

    private static void newObject() {
        PictureReader x = new PictureReader();
        Due.is("NONE", PictureReader.NONE, -1);
        for (int p = 0; p < 3; p++) {
            for (int what = 0; what <= 12; what++) {
                Due.is("new about " + what, x.about(p, what), 0);
            }
            Due.is("new thing", x.thing(p, 0), NONE);
            Due.is("new hole", x.hole(p, 0, 0), NONE);
            Due.is("new groups", x.groups(p), 0);
            Due.is("new top", x.top(p, 0), NONE);
            Due.is("new alive", x.alive(p, 1), NONE);
            Due.is("new alive 0", x.alive(p, 0), NONE);
            Due.is("new alive -1", x.alive(p, -1), NONE);
            Due.is("new under", x.under(p, 0, 0), NONE);
            Due.is("new differ", x.differ(p, 0, 4), 0);
            Due.is("new value", x.value(p, 1, 0), 0);
        }
        Due.is("new step", x.step(0), NONE);
        Due.is("new end", x.end(0), 0);
        Due.is("new end", x.end(1), NONE);
    }

    private static void feed() {
        PictureReader x = new PictureReader();
        for (int i = 1; i <= 400; i++) {
            Due.is("feed " + i, x.feed(0, 0, 0, 0, 0), 20L * i);
        }
        Due.is("feed beyond 8000", x.feed(0, 0, 0, 0, 0), NONE);
        Due.is("end of a full tape", x.end(8000), 8000);
        Due.is("end beyond", x.end(8001), NONE);
        Due.is("end", x.end(7981), 7981);
        Due.is("feed to 8001", x.feed(0, 0, 0, 0, 0), NONE);
        Due.is("end", x.end(7980), 7980);
        Due.is("feed to 8000", x.feed(0, 0, 0, 0, 0), 8000);
        Due.is("read", x.read(0), 0);
        Due.is("bytes", x.about(0, 0), 8000);
        Due.is("feed after read", x.feed(0, 0, 0, 0, 0), 20);

        PictureReader y = new PictureReader();
        y.feed(0x52000100, 0x000e8081, 0x82838485, 0x86878889, 0x8a8b8c8d);
        Due.is("a row, the highest byte first", y.read(0), 1);
        for (int k = 0; k < 14; k++) {
            Due.is("its bytes", y.value(0, 1, k), (byte) (0x80 + k));
        }
    }

    private static void end() {
        PictureReader x = new PictureReader();
        x.feed(0x41000001, 0x0a410000, 0x020a0000, 0, 0);
        Due.is("end -1", x.end(-1), NONE);
        Due.is("end 21", x.end(21), NONE);
        Due.is("end MIN", x.end(MIN), NONE);
        Due.is("end MAX", x.end(MAX), NONE);
        Due.is("end 20", x.end(20), 20);
        Due.is("end 9", x.end(9), 9);
        Due.is("end 10", x.end(10), NONE);
        Due.is("feed", x.feed(0x0a410000, 0x030a0000, 0, 0, 0), 29);
        Due.is("end 14", x.end(14), 14);
        Due.is("read", x.read(2), 3);
        Due.is("roots", x.about(2, 8), 3);
        Due.is("end of nothing", x.end(1), NONE);
        Due.is("end of nothing", x.end(0), 0);
    }

    private static void read() {
        PictureReader x = new PictureReader();
        TapeMaker tape = new TapeMaker().kind(3, 255, 0).thing(7, 3, 5).root(0, 7);
        TapeMaker.feed(x, tape.toBytes());
        Due.is("read 3", x.read(3), NONE);
        Due.is("read -1", x.read(-1), NONE);
        Due.is("the tape stays", x.end(tape.size()), tape.size());
        Due.is("read 1", x.read(1), 3);
        Due.is("the tape is empty", x.end(1), NONE);
        Due.is("others have nothing", x.about(0, 1) + x.about(2, 1), 0);
        Due.is("alive", x.alive(1, 7), 1);
        Due.is("another into the same", new TapeMaker().soft(9, 7).readInto(x, 1), 1);
        Due.is("what it was goes", x.alive(1, 7), NONE);
        Due.is("kinds go", x.under(1, 3, 3), NONE);
        Due.is("living go", x.about(1, 11), 0);
        Due.is("things", x.about(1, 7), 1);
        Due.is("roots go", x.about(1, 8), 0);
        Due.is("unknown", x.about(1, 9), 1);
        Due.is("empty", x.read(1), 0);
        for (int what = 0; what <= 12; what++) {
            Due.is("nothing is left " + what, x.about(1, what), 0);
        }
        new TapeMaker().kind(0, 255).thing(1, 0).thing(2, 0).row(3, 0, 0).row(4, 0, 0)
                .root(0, 1).readInto(x, 1);
        Due.is("groups", x.groups(1), 1);
        Due.is("grown", x.grown(0, 1, 0), 2);
        new TapeMaker().row(3, 0, 0).readInto(x, 1);
        Due.is("groups go", x.groups(1), 0);
        Due.is("things go", x.grown(0, 1, 0), 0);
        Due.is("tops go", x.top(1, 0), NONE);
    }

    private static void about() {
        TapeMaker tape = new TapeMaker().mark().mark()
                .kind(0, 255, 5, 4)
                .thing(1, 0, 0, 2, 1)
                .thing(2, 0, 1, 2, 0)
                .soft(3, 99)
                .bytes(1, 2, 3).mark()
                .root(9, 1).root(0, 77)
                .bytes(84);
        PictureReader x = new PictureReader();
        Due.is("records", tape.readInto(x, 0), 6);
        int[] due = {tape.size(), 6, 6 + 7 + 7 + 5 + 4 + 4, 9, 2, 4, 1, 3, 2, 3, 48, 2, 32};
        for (int what = 0; what < due.length; what++) {
            Due.is("about " + what, x.about(0, what), due[what]);
        }
        Due.is("each byte is accounted for",
                x.about(0, 2) + x.about(0, 3) + x.about(0, 5), x.about(0, 0));
        Due.is("about 13", x.about(0, 13), NONE);
        Due.is("about -1", x.about(0, -1), NONE);
        Due.is("about of 3", x.about(3, 0), NONE);
    }

    private static void holes() {
        TapeMaker tape = new TapeMaker()
                .bytes(1).mark().mark()
                .bytes(65, 0, 0, 1, 7, 7).mark()
                .bytes(65, 0, 0, 1).mark()
                .bytes(65, 0, 0);
        PictureReader x = new PictureReader();
        Due.is("records", tape.readInto(x, 0), 1);
        Due.is("holes", x.about(0, 4), 3);
        int[][] due = {{0, 1}, {3, 6}, {15, 3}};
        for (int i = 0; i < due.length; i++) {
            Due.is("where " + i, x.hole(0, i, 0), due[i][0]);
            Due.is("how many " + i, x.hole(0, i, 1), due[i][1]);
        }
        Due.is("hole 3", x.hole(0, 3, 0), NONE);
        Due.is("hole -1", x.hole(0, -1, 0), NONE);
        Due.is("hole what 2", x.hole(0, 0, 2), NONE);
        Due.is("hole what -1", x.hole(0, 0, -1), NONE);

        TapeMaker many = new TapeMaker();
        for (int i = 0; i < 4000; i++) {
            many.bytes(0).mark();
        }
        Due.is("nothing but holes", many.readInto(x, 1), 0);
        Due.is("4000 holes", x.about(1, 4), 4000);
        Due.is("the last", x.hole(1, 3999, 0), 7998);
        Due.is("its bytes", x.hole(1, 3999, 1), 1);
        Due.is("none behind", x.hole(1, 4000, 0), NONE);
    }

    private static void isTaken(String name, boolean taken, TapeMaker tape, int before) {
        PictureReader x = new PictureReader();
        Due.is(name, tape.readInto(x, 0), before + (taken ? 1 : 0));
        Due.is(name + ": each byte", x.about(0, 2) + x.about(0, 3) + x.about(0, 5), tape.size());
    }

    private static TapeMaker base() {
        return new TapeMaker().kind(0, 255, 4).thing(1, 0, 1);
    }

    private static void tornRecords() {
        isTaken("kind 39", true, base().kind(39, 255), 2);
        isTaken("kind 40", false, base().kind(40, 255), 2);
        isTaken("kind twice", false, base().kind(0, 255), 2);
        isTaken("parent", true, base().kind(1, 0), 2);
        isTaken("parent not read", false, base().kind(1, 2), 2);
        isTaken("parent 254", false, base().kind(1, 254), 2);
        isTaken("itself its parent", false, base().kind(1, 1), 2);
        isTaken("12 fields", true, base().kind(1, 255, new int[12]), 2);
        isTaken("13 fields", false, base().kind(1, 255, new int[13]), 2);
        isTaken("sort 5", true, base().kind(1, 255, 5), 2);
        isTaken("sort 6", false, base().kind(1, 255, 6), 2);
        isTaken("sort 255", false, base().kind(1, 255, 0, 255), 2);
        isTaken("kind too short", false, base().bytes(75, 1, 255, 2, 0), 2);
        isTaken("kind without count", false, base().bytes(75, 1, 255), 2);
        isTaken("kind with a byte behind it", false, base().bytes(75, 1, 255, 0, 0), 2);
        isTaken("kind at the end", true, base().bytes(75, 1, 255, 1, 0), 2);
        isTaken("its own number a mark", true, base().kind(10, 255), 2);

        isTaken("thing 0", false, base().thing(0, 0, 1), 2);
        isTaken("thing 65535", true, base().thing(65535, 0, 1), 2);
        isTaken("thing twice", false, base().thing(1, 0, 1), 2);
        isTaken("no such kind", false, base().thing(2, 1, 1), 2);
        isTaken("kind 200", false, base().thing(2, 200, 1), 2);
        isTaken("truth 0", true, base().thing(2, 0, 0), 2);
        isTaken("truth 2", false, base().thing(2, 0, 2), 2);
        isTaken("truth 255", false, base().thing(2, 0, 255), 2);
        isTaken("thing too short", false, base().bytes(84, 0, 2, 0), 2);
        isTaken("thing too long", false, base().thing(2, 0, 1, 1), 2);
        isTaken("thing's head alone", false, base().bytes(84, 0, 2), 2);

        isTaken("row 0", false, base().row(0, 0, 0), 2);
        isTaken("row with a thing's number", false, base().row(1, 0, 0), 2);
        isTaken("row of sort 6", false, base().row(2, 6, 0), 2);
        isTaken("row of truths", true, base().row(2, 4, 3, 0, 1, 0), 2);
        isTaken("row of a truth 2", false, base().row(2, 4, 3, 0, 1, 2), 2);
        isTaken("row of 1000", true, base().row(2, 0, 1000, new int[1000]), 2);
        isTaken("row of 1001", false, base().row(2, 0, 1001, new int[1001]), 2);
        isTaken("row too short", false, base().row(2, 1, 3, 0, 0, 0), 2);
        isTaken("the mark is its last byte", true, base().row(2, 1, 2, 0, 0, 0), 2);
        isTaken("row's head alone", false, base().bytes(82, 0, 2, 0, 0), 2);
        isTaken("row with marks in it", true, base().row(2, 0, 3, 10, 10, 10), 2);

        isTaken("soft 0", false, base().soft(0, 1), 2);
        isTaken("soft of a taken number", false, base().soft(1, 1), 2);
        isTaken("soft to none", true, base().soft(2, 0), 2);
        isTaken("soft too short", false, base().bytes(83, 0, 2, 0), 2);

        isTaken("root 9", true, base().root(9, 1), 2);
        isTaken("root 10", false, base().bytes(65, 11, 0, 1), 2);
        isTaken("root sort a mark", false, base().root(10, 1), 2);
        isTaken("root to 0", false, base().root(0, 0), 2);
        isTaken("root to 65535", true, base().root(0, 65535), 2);
        isTaken("root too short", false, base().bytes(65, 0, 0), 2);
        isTaken("no such record", false, base().bytes(66, 0, 0, 1), 2);
        isTaken("a refused number is free", true, base().thing(2, 0, 2).thing(2, 0, 1), 2);
    }

    private static void limits() {
        TapeMaker things = new TapeMaker();
        for (int i = 1; i <= 601; i++) {
            things.soft(i, 0);
        }
        things.row(1000, 0, 0).kind(0, 255).thing(1001, 0).root(0, 600);
        PictureReader x = new PictureReader();
        Due.is("600 things, a kind, a root", things.readInto(x, 0), 602);
        Due.is("things", x.about(0, 7), 600);
        Due.is("the last", x.thing(0, 599), 600);
        Due.is("thing 600", x.thing(0, 600), NONE);
        Due.is("601", x.alive(0, 601), NONE);
        Due.is("living", x.about(0, 11), 1);
        Due.is("holes", x.about(0, 4), 3);

        TapeMaker roots = new TapeMaker();
        for (int i = 1; i <= 101; i++) {
            roots.root(0, i);
        }
        roots.soft(101, 0).soft(100, 0);
        Due.is("100 roots, two soft", roots.readInto(x, 1), 102);
        Due.is("roots", x.about(1, 8), 100);
        Due.is("the 100th", x.alive(1, 100), 1);
        Due.is("the 101st", x.alive(1, 101), 0);
        Due.is("unknown", x.about(1, 9), 99);

        int[] refs = new int[1000];
        for (int i = 0; i < refs.length; i++) {
            refs[i] = 1 + i % 2;
        }
        int[] fewer = refs.clone();
        fewer[5] = 0;
        TapeMaker many = new TapeMaker().refs(1, refs).refs(2, refs).refs(3, fewer)
                .refs(4, 1, 1).soft(5, 1).soft(6, 1).soft(7, 0).refs(8, 9).refs(9, 0, 0);
        Due.is("3000 refs", many.readInto(x, 2), 6);
        Due.is("not 3001", x.alive(2, 4), NONE);
        Due.is("just 3000", x.alive(2, 5), 0);
        Due.is("one more", x.alive(2, 6), NONE);
        Due.is("none that is set", x.alive(2, 7), 0);
        Due.is("an unknown one", x.alive(2, 8), NONE);
        Due.is("two that are 0", x.alive(2, 9), 0);
        Due.is("lead to 1", x.told(2, 1, 6), 500 + 500 + 500 + 1);
        Due.is("lead to 2", x.told(2, 2, 6), 500 + 500 + 499);

        // A chain of forty kinds with all fields: 480 values of eight bytes each.
        TapeMaker deep = new TapeMaker();
        for (int k = 0; k < 40; k++) {
            deep.kind(k, k == 0 ? 255 : k - 1, 3, 3, 3, 3, 3, 3, 3, 3, 3, 3, 3, 3);
        }
        int[] bytes = new int[480 * 8];
        for (int v = 0; v < 480; v++) {
            bytes[v * 8 + 6] = v >> 8;
            bytes[v * 8 + 7] = v;
        }
        deep.thing(1, 39, bytes);
        Due.is("the deepest", deep.readInto(x, 0), 41);
        Due.is("values", x.told(0, 1, 2), 480);
        Due.is("size", x.told(0, 1, 3), 8 + 3840);
        for (int v = 0; v < 480; v++) {
            Due.is("deep value", x.value(0, 1, v), v);
        }
        Due.is("under the deepest", x.under(0, 39, 0), 1);
    }

    private static void thingAndTold() {
        TapeMaker tape = new TapeMaker()
                .kind(4, 255, 5, 0, 5)
                .kind(5, 4, 5)
                .thing(300, 5, 0, 0, 9, 1, 44, 0, 2)
                .row(2, 5, 3, 0, 2, 1, 44, 0, 50)
                .row(8, 1, 2, 0, 1, 0, 2)
                .soft(5, 300)
                .root(1, 2);
        PictureReader x = new PictureReader();
        Due.is("read", tape.readInto(x, 2), 7);
        int[] order = {300, 2, 8, 5};
        for (int i = 0; i < order.length; i++) {
            Due.is("thing " + i, x.thing(2, i), order[i]);
        }
        Due.is("thing 4", x.thing(2, 4), NONE);
        Due.is("thing -1", x.thing(2, -1), NONE);
        int[][] due = {
            {0, 5, 4, 16, 14, 3, 3},
            {1, 5, 3, 24, 26, 3, 2},
            {1, 1, 2, 16, 39, 0, 0},
            {2, 0, 1, 16, 50, 1, 0}};
        for (int i = 0; i < order.length; i++) {
            for (int what = 0; what < 7; what++) {
                Due.is("told " + order[i] + " " + what, x.told(2, order[i], what), due[i][what]);
            }
            Due.is("told 7", x.told(2, order[i], 7), NONE);
            Due.is("told -1", x.told(2, order[i], -1), NONE);
        }
        Due.is("told of none", x.told(2, 1, 0), NONE);
        Due.is("told of 0", x.told(2, 0, 0), NONE);
        Due.is("told of -1", x.told(2, -1, 0), NONE);
    }

    private static void sizes() {
        int[] widths = {1, 2, 4, 8, 1, 2};
        PictureReader x = new PictureReader();
        for (int sort = 0; sort < 6; sort++) {
            for (int n = 0; n <= 12; n++) {
                int[] sorts = new int[n];
                java.util.Arrays.fill(sorts, sort);
                int bytes = n * widths[sort];
                TapeMaker tape = new TapeMaker().kind(0, 255, sorts)
                        .thing(1, 0, new int[bytes]).row(2, sort, n, new int[bytes]).soft(3, 0);
                Due.is("read", tape.readInto(x, 0), 4);
                int ofKind = (int) Math.ceil((8 + bytes) / 8.0) * 8;
                int ofRow = (int) Math.ceil((12 + bytes) / 8.0) * 8;
                Due.is("size of a thing", x.told(0, 1, 3), ofKind);
                Due.is("size of a row", x.told(0, 2, 3), ofRow);
                Due.is("size of a soft thing", x.told(0, 3, 3), 16);
                Due.is("all", x.about(0, 10), ofKind + ofRow + 16);
                Due.is("of the living", x.about(0, 12), 0);
            }
        }
    }

    private static void values() {
        TapeMaker tape = new TapeMaker()
                .kind(0, 255, 0, 1)
                .kind(1, 255)
                .kind(2, 0, 2, 3)
                .kind(3, 2, 4, 5)
                .thing(1, 3,
                        0x80, 0xff, 0xfe, 0x80, 0, 0, 0, 0x80, 0, 0, 0, 0, 0, 0, 1, 1, 0xff, 0xfe)
                .thing(2, 3, 0x7f, 0x7f, 0xff, 0x7f, 0xff, 0xff, 0xff,
                        0x7f, 0xff, 0xff, 0xff, 0xff, 0xff, 0xff, 0xff, 0, 0, 0)
                .row(3, 1, 2, 0xff, 0xff, 0x80, 0)
                .row(4, 5, 2, 0xff, 0xff, 0, 0)
                .soft(5, 0xabcd)
                .thing(6, 1);
        PictureReader x = new PictureReader();
        Due.is("read", tape.readInto(x, 0), 10);
        long[][] due = {
            {-128, -2, MIN, Long.MIN_VALUE + 1, 1, 65534},
            {127, 32767, MAX, Long.MAX_VALUE, 0, 0},
            {-1, -32768},
            {65535, 0},
            {0xabcd},
            {}};
        for (int i = 0; i < due.length; i++) {
            int thing = i + 1;
            for (int k = 0; k < due[i].length; k++) {
                Due.is("value " + thing + " " + k, x.value(0, thing, k), due[i][k]);
            }
            Due.is("count " + thing, x.told(0, thing, 2), due[i].length);
            Due.is("none behind", x.value(0, thing, due[i].length), 0);
            Due.is("none before", x.value(0, thing, -1), 0);
            Due.is("none there", x.value(0, thing, MAX), 0);
            Due.is("none there", x.value(0, thing, MIN), 0);
        }
        Due.is("no thing", x.value(0, 7, 0), 0);
        Due.is("no picture", x.value(3, 1, 0), 0);
        Due.is("no picture", x.value(-1, 1, 0), 0);
        Due.is("another picture", x.value(1, 1, 0), 0);
    }

    private static void refs() {
        TapeMaker tape = new TapeMaker()
                .kind(0, 255, 5, 0)
                .kind(1, 0, 1, 5, 5)
                .thing(1, 1, 0, 9, 7, 0, 5, 0, 0, 0xff, 0xff)
                .row(2, 5, 2, 0, 1, 0, 0)
                .row(3, 0, 2, 1, 2)
                .soft(4, 3);
        PictureReader x = tape.reader();
        int[][] due = {{9, 0, 65535}, {1, 0}, {}, {3}};
        for (int i = 0; i < due.length; i++) {
            for (int k = 0; k < due[i].length; k++) {
                Due.is("ref", x.ref(0, i + 1, k), due[i][k]);
            }
            Due.is("how many refs", x.told(0, i + 1, 5), due[i].length);
            Due.is("none behind", x.ref(0, i + 1, due[i].length), NONE);
            Due.is("none before", x.ref(0, i + 1, -1), NONE);
        }
        Due.is("no thing", x.ref(0, 9, 0), NONE);
        Due.is("no picture", x.ref(3, 1, 0), NONE);
        Due.is("unknown", x.about(0, 9), 2);
    }

    private static void under() {
        PictureReader x = new TapeMaker().kind(7, 255).kind(3, 7).kind(12, 3).kind(5, 7).reader();
        int[][] due = {
            {7, 7, 1}, {3, 3, 1}, {3, 7, 1}, {12, 7, 1}, {12, 3, 1}, {5, 7, 1},
            {7, 3, 0}, {7, 12, 0}, {3, 12, 0}, {5, 3, 0}, {3, 5, 0}, {12, 5, 0},
            {7, 8, NONE}, {8, 7, NONE}, {8, 8, NONE}, {-1, 7, NONE}, {7, -1, NONE},
            {40, 7, NONE}, {7, 255, NONE}, {MIN, MAX, NONE}};
        for (int[] row : due) {
            Due.is("under " + row[0] + " " + row[1], x.under(0, row[0], row[1]), row[2]);
        }
        Due.is("another picture", x.under(1, 7, 7), NONE);
    }

    private static void alive() {
        PictureReader x = new TapeMaker().kind(0, 255, 5, 5)
                .node(1, 0, 2, 99).node(2, 0, 1, 3).soft(3, 4).node(4, 0, 4, 1)
                .refs(5, 6).row(6, 0, 0).soft(7, 6)
                .root(0, 1).root(1, 1).root(0, 98).reader();
        int[] due = {1, 1, 1, 0, 0, 0, 0};
        for (int i = 0; i < due.length; i++) {
            Due.is("alive " + (i + 1), x.alive(0, i + 1), due[i]);
        }
        Due.is("unknown", x.alive(0, 99), NONE);
        Due.is("of no picture", x.alive(5, 1), NONE);
        Due.is("living", x.about(0, 11), 3);
        Due.is("their sizes", x.about(0, 12), 48);
        Due.is("unknown refs", x.about(0, 9), 2);
        PictureReader y = new TapeMaker().soft(1, 2).row(2, 0, 0).row(3, 5, 1, 0, 2)
                .root(0, 1).reader();
        Due.is("a soft thing lives", y.alive(0, 1), 1);
        Due.is("but not what it leads to", y.alive(0, 2), 0);
    }

    private static void keepers() {
        // 1 -> 2, 3; 2, 3 -> 4; 4 -> 5; 5 -> 6, 7; 6, 7 -> 8; 8 -> 4; root 9 -> 7
        PictureReader x = new TapeMaker().kind(0, 255, 5, 5)
                .node(1, 0, 2, 3).node(2, 0, 4, 0).node(3, 0, 4, 4).node(4, 0, 5, 5)
                .node(5, 0, 6, 7).node(6, 0, 8, 6).node(7, 0, 8, 1).node(8, 0, 4, 8)
                .node(10, 0, 11, 1).node(11, 0, 10, 0)
                .root(0, 1).reader();
        int[] keeper = {0, 1, 1, 1, 4, 5, 5, 5};
        int[] kept = {128, 16, 16, 80, 64, 16, 16, 16};
        int[] height = {1, 2, 2, 2, 3, 4, 4, 4};
        for (int i = 0; i < 8; i++) {
            Due.is("keeper of " + (i + 1), x.keeper(0, i + 1), keeper[i]);
            Due.is("kept of " + (i + 1), x.kept(0, i + 1), kept[i]);
            Due.is("height of " + (i + 1), x.height(0, i + 1), height[i]);
        }
        for (int thing : new int[] {0, -1, 9, 10, 11, MIN, MAX}) {
            Due.is("keeper of none", x.keeper(0, thing), NONE);
            Due.is("kept of none", x.kept(0, thing), NONE);
            Due.is("height of none", x.height(0, thing), NONE);
        }
        PictureReader y = new TapeMaker().kind(0, 255, 5, 5)
                .node(1, 0, 2, 3).node(2, 0, 4, 0).node(3, 0, 4, 4).node(4, 0, 5, 5)
                .node(5, 0, 6, 7).node(6, 0, 8, 6).node(7, 0, 8, 1).node(8, 0, 4, 8)
                .node(9, 0, 7, 0).root(0, 1).root(4, 9).reader();
        int[] shared = {0, 1, 1, 0, 4, 5, 0, 0, 0};
        for (int i = 0; i < shared.length; i++) {
            Due.is("keeper of " + (i + 1), y.keeper(0, i + 1), shared[i]);
        }
        Due.is("a soft thing keeps nothing", new TapeMaker().soft(1, 2).row(2, 0, 0)
                .root(0, 1).root(0, 2).reader().kept(0, 1), 16);
        chain();
    }

    private static void chain() {
        TapeMaker tape = new TapeMaker().kind(0, 255, 5);
        for (int i = 1; i <= 600; i++) {
            tape.node(i, 0, i + 1);
        }
        PictureReader x = tape.root(0, 1).reader();
        for (int i = 1; i <= 600; i++) {
            Due.is("chain keeper", x.keeper(0, i), i - 1);
            Due.is("chain kept", x.kept(0, i), 16L * (601 - i));
            Due.is("chain height", x.height(0, i), i);
            Due.is("chain top", x.top(0, i - 1), i);
        }
        Due.is("chain way", x.way(0, 600, 0), 600);
        for (int k = 0; k < 600; k++) {
            Due.is("chain step", x.step(k), k + 1);
        }
        Due.is("chain's end", x.step(600), NONE);
    }

    private static void ways() {
        // Two ways of four: 5, 2, 9, 7 and 5, 3, 1, 7; another root, 6, has the one over 1, too.
        PictureReader x = new TapeMaker().kind(0, 255, 5, 5)
                .node(7, 0, 0, 0).node(9, 0, 7, 0).node(1, 0, 7, 7).node(5, 0, 3, 2)
                .node(2, 0, 9, 0).node(3, 0, 1, 5).node(6, 0, 3, 6)
                .soft(20, 7).node(21, 0, 20, 22).soft(22, 23).soft(23, 24).node(24, 0, 0, 0)
                .node(30, 0, 24, 0)
                .root(0, 6).root(0, 5).root(1, 21).reader();
        isWay(x, 7, 0, 5, 2, 9, 7);
        isWay(x, 7, 1, 21, 20, 7);
        isWay(x, 5, 0, 5);
        isWay(x, 3, 0, 5, 3);
        isWay(x, 1, 0, 5, 3, 1);
        isWay(x, 20, 0, 21, 20);
        isWay(x, 22, 0, 21, 22);
        isWay(x, 24, 1, 21, 22, 23, 24);
        Due.is("no way but a soft one", x.way(0, 24, 0), 0);
        Due.is("soft behind soft", x.way(0, 23, 0), 0);
        Due.is("nothing leads there", x.way(0, 30, 1), 0);
        Due.is("the way stays", x.step(3), 24);
        Due.is("soft 2", x.way(0, 7, 2), NONE);
        Due.is("soft -1", x.way(0, 7, -1), NONE);
        Due.is("no thing", x.way(0, 8, 0), NONE);
        Due.is("no thing", x.way(0, 0, 0), NONE);
        Due.is("no picture", x.way(3, 7, 0), NONE);
        Due.is("the way stays", x.step(0), 21);
    }

    private static void isWay(PictureReader x, int thing, int soft, int... due) {
        Due.is("way to " + thing, x.way(0, thing, soft), due.length);
        for (int k = 0; k < due.length; k++) {
            Due.is("step " + k + " to " + thing, x.step(k), due[k]);
        }
        Due.is("no step behind", x.step(due.length), NONE);
        Due.is("no step before", x.step(-1), NONE);
    }

    private static void steps() {
        PictureReader x = new TapeMaker().refs(1, 2).refs(2, 1).root(0, 1).reader();
        Due.is("no way yet", x.step(0), NONE);
        Due.is("way", x.way(0, 2, 0), 2);
        new TapeMaker().refs(3, 4).refs(4).root(0, 3).readInto(x, 0);
        Due.is("outlives its picture", x.step(0), 1);
        Due.is("outlives its picture", x.step(1), 2);
        new TapeMaker().refs(8, 4).root(0, 8).readInto(x, 2);
        Due.is("of another picture", x.way(2, 8, 1), 1);
        Due.is("step 0", x.step(0), 8);
        Due.is("step 1", x.step(1), NONE);
        Due.is("step MAX", x.step(MAX), NONE);
        Due.is("step MIN", x.step(MIN), NONE);
    }

    private static void groups() {
        PictureReader x = new TapeMaker()
                .row(9, 0, 2, 1, 2)
                .row(20, 1, 0)
                .row(5, 1, 2, 1, 2, 3, 4)
                .row(3, 1, 2, 1, 2, 3, 4)
                .row(7, 2, 1, 1, 2, 3, 4)
                .row(8, 0, 2, 1, 2)
                .row(10, 0, 2, 1, 3)
                .row(11, 4, 2, 1, 1)
                .row(12, 0, 2, 1, 1)
                .row(21, 1, 0)
                .row(22, 2, 0)
                .row(1, 0, 2, 1, 2)
                .row(13, 0, 3, 1, 2, 0)
                .soft(40, 1).soft(41, 1)
                .kind(0, 255).thing(50, 0).thing(51, 0).reader();
        Due.is("groups", x.groups(0), 3);
        int[][] due = {{9, 3, 32}, {20, 2, 16}, {5, 2, 16}};
        for (int i = 0; i < due.length; i++) {
            for (int what = 0; what < 3; what++) {
                Due.is("group " + i + " " + what, x.group(0, i, what), due[i][what]);
            }
            Due.is("group what 3", x.group(0, i, 3), NONE);
            Due.is("group what -1", x.group(0, i, -1), NONE);
        }
        Due.is("group 3", x.group(0, 3, 0), NONE);
        Due.is("group -1", x.group(0, -1, 0), NONE);
        Due.is("none", x.groups(1), 0);
        Due.is("none", x.group(1, 0, 0), NONE);
        Due.is("no picture", x.groups(3), NONE);
        Due.is("no picture", x.group(-1, 0, 0), NONE);
    }

    private static void top() {
        PictureReader x = new TapeMaker().kind(0, 255, 5, 5)
                .node(30, 0, 20, 0).node(20, 0, 0, 0).row(9, 0, 1, 7).node(4, 0, 30, 9)
                .row(2, 3, 0).row(90, 3, 9, new int[72]).node(1, 0, 1, 1)
                .root(0, 4).root(0, 2).root(0, 90).reader();
        int[] due = {90, 4, 30, 2, 9, 20};
        for (int i = 0; i < due.length; i++) {
            Due.is("top " + i, x.top(0, i), due[i]);
        }
        Due.is("top 6", x.top(0, 6), NONE);
        Due.is("top -1", x.top(0, -1), NONE);
        Due.is("top MAX", x.top(0, MAX), NONE);
        Due.is("no picture", x.top(3, 0), NONE);
    }

    private static void differences() {
        PictureReader x = new PictureReader();
        new TapeMaker().kind(0, 255, 0).kind(1, 255, 0).kind(2, 255, 1).kind(3, 255, 0, 0)
                .kind(4, 255)
                .thing(500, 0, 5).thing(1, 0, 5).thing(2, 0, 5).thing(3, 2, 0xff, 0xff)
                .thing(4, 3, 1, 2).thing(14, 4)
                .row(5, 0, 2, 1, 2).row(6, 0, 2, 1, 2).row(7, 0, 2, 1, 2).soft(8, 1).soft(9, 1)
                .soft(10, 1).row(11, 5, 1, 0, 1).root(0, 1).readInto(x, 0);
        new TapeMaker().kind(0, 255, 0).kind(1, 255, 0).kind(2, 255, 0).kind(3, 255, 0)
                .kind(4, 255)
                .thing(2, 1, 5).thing(1, 0, 5).thing(3, 2, 0xff)
                .thing(4, 3, 1).thing(14, 4)
                .row(5, 1, 2, 0, 1, 0, 2).row(6, 0, 2, 1, 3).row(7, 0, 3, 1, 2, 0)
                .soft(8, 1).soft(9, 2).thing(10, 0, 1).soft(11, 1)
                .thing(400, 0, 1).thing(300, 0, 1).root(9, 2).readInto(x, 1);
        int[][] due = {
            {300, 400}, {500}, {2, 5, 10, 11}, {4, 6, 7, 9}, {1, 3, 8, 14}};
        int[][] back = {
            {500}, {300, 400}, {2, 5, 10, 11}, {4, 6, 7, 9}, {1, 3, 8, 14}};
        for (int how = 0; how < 5; how++) {
            isDifference(x, 0, 1, how, due[how]);
            isDifference(x, 1, 0, how, back[how]);
        }
        isDifference(x, 0, 0, 4, 1, 2, 3, 4, 5, 6, 7, 8, 9, 10, 11, 14, 500);
        isDifference(x, 0, 0, 3);
        isDifference(x, 0, 2, 0);
        isDifference(x, 2, 1, 0, 1, 2, 3, 4, 5, 6, 7, 8, 9, 10, 11, 14, 300, 400);
        isDifference(x, 2, 2, 4);
        int[][] wrong = {{3, 0, 0}, {0, 3, 0}, {-1, 0, 0}, {0, -1, 0}, {0, 1, 5}, {0, 1, -1}};
        for (int[] row : wrong) {
            Due.is("differ", x.differ(row[0], row[1], row[2]), NONE);
            Due.is("differs", x.differs(row[0], row[1], row[2], 0), NONE);
        }
    }

    private static void isDifference(PictureReader x, int first, int second, int how, int... due) {
        String name = first + " " + second + " " + how;
        Due.is("differ " + name, x.differ(first, second, how), due.length);
        for (int i = 0; i < due.length; i++) {
            Due.is("differs " + name + " " + i, x.differs(first, second, how, i), due[i]);
        }
        Due.is("none behind", x.differs(first, second, how, due.length), NONE);
        Due.is("none before", x.differs(first, second, how, -1), NONE);
        Due.is("none there", x.differs(first, second, how, MAX), NONE);
    }

    private static void grown() {
        PictureReader x = new PictureReader();
        new TapeMaker().kind(0, 255).kind(1, 0).kind(39, 255)
                .thing(1, 0).thing(2, 1).thing(3, 1).row(4, 1, 0).row(5, 0, 0).soft(6, 1)
                .readInto(x, 0);
        new TapeMaker().kind(0, 255).kind(2, 255)
                .thing(9, 0).thing(8, 0).thing(7, 0).thing(1, 2).readInto(x, 1);
        int[][] due = {
            {0, 1, 0, 2}, {1, 0, 0, -2}, {0, 1, 1, -2}, {1, 0, 1, 2}, {0, 1, 2, 1},
            {0, 1, 39, 0}, {0, 1, 38, 0}, {0, 0, 1, 0}, {2, 1, 0, 3}, {1, 2, 0, -3},
            {0, 1, 40, -100000}, {0, 1, -1, -100000}, {0, 3, 0, -100000}, {3, 0, 0, -100000},
            {-1, 0, 0, -100000}, {0, -1, 0, -100000}, {MIN, MAX, MIN, -100000}};
        for (int[] row : due) {
            Due.is("grown " + row[0] + " " + row[1] + " " + row[2],
                    x.grown(row[0], row[1], row[2]), row[3]);
        }
    }

    private static void wrongPictures() {
        PictureReader x = base().root(0, 1).reader();
        for (int p : new int[] {3, -1, MIN, MAX}) {
            Due.is("read", x.read(p), NONE);
            Due.is("about", x.about(p, 0), NONE);
            Due.is("hole", x.hole(p, 0, 0), NONE);
            Due.is("thing", x.thing(p, 0), NONE);
            Due.is("told", x.told(p, 1, 0), NONE);
            Due.is("value", x.value(p, 1, 0), 0);
            Due.is("ref", x.ref(p, 1, 0), NONE);
            Due.is("under", x.under(p, 0, 0), NONE);
            Due.is("alive", x.alive(p, 1), NONE);
            Due.is("keeper", x.keeper(p, 1), NONE);
            Due.is("kept", x.kept(p, 1), NONE);
            Due.is("height", x.height(p, 1), NONE);
            Due.is("way", x.way(p, 1, 0), NONE);
            Due.is("groups", x.groups(p), NONE);
            Due.is("group", x.group(p, 0, 0), NONE);
            Due.is("top", x.top(p, 0), NONE);
            Due.is("differ", x.differ(p, 0, 0), NONE);
            Due.is("differs", x.differs(0, p, 0, 0), NONE);
            Due.is("grown", x.grown(0, p, 0), -100000);
        }
        Due.is("what is refused changes nothing", x.kept(0, 1), 16);
    }
}
