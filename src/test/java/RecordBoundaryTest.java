import java.util.Arrays;

/**
 * The boundary cases of each record, of its bytes and of what stands behind it: part 1 of the
 * terms. Each method has the sentence of the document that it tests above it.
 */
public final class RecordBoundaryTest {
    private static final int NONE = PictureReader.NONE;
    private static final int[] WIDTH = {1, 2, 4, 8, 1, 2};

    private RecordBoundaryTest() {
    }

    public static void main(String[] args) {
        kindNumber();
        kindParent();
        kindFields();
        fieldSorts();
        thingNumber();
        thingKind();
        thingWidth();
        parentsFirst();
        truths();
        rowNumber();
        rowSort();
        rowElements();
        rowWidth();
        softThing();
        rootSort();
        rootRef();
        recordByte();
        markInsideARecord();
        markOutsideARecord();
        recordAtTheEnd();
        byteBehindARecord();
        cutAtEachPlace();
        Due.finish();
    }

    // ---- "75 a KIND"

    /** "its number (a byte, 0 .. 39)" */
    private static void kindNumber() {
        Records.isTaken("kind 1", 75, 1, 255, 0);
        Records.isTaken("kind 39", 75, 39, 255, 0);
        Records.isHole("kind 40", 75, 40, 255, 0);
        Records.isHole("kind 128", 75, 128, 255, 0);
        Records.isHole("kind 255", 75, 255, 255, 0);
        Due.is("kind 0", new TapeMaker().kind(0, 255).reader().under(0, 0, 0), 1);
        Due.is("kind 39", new TapeMaker().kind(39, 255).reader().under(0, 39, 39), 1);
        Due.is("kind 40", new TapeMaker().kind(40, 255).reader().under(0, 40, 40), NONE);
    }

    /** "that of its PARENT (a byte; 255: none)"; "its PARENT is no KIND read so far" */
    private static void kindParent() {
        Records.isTaken("parent 0", 75, 1, 0, 0);
        Records.isTaken("parent 255", 75, 1, 255, 0);
        Records.isHole("parent 254", 75, 1, 254, 0);
        Records.isHole("parent 40", 75, 1, 40, 0);
        Records.isHole("parent 39, not read", 75, 1, 39, 0);
        Records.isHole("itself as parent", 75, 1, 1, 0);
        PictureReader later = new TapeMaker().kind(2, 3).kind(3, 255).kind(4, 3).reader();
        Due.is("a parent that comes later: read", later.about(0, 6), 2);
        Due.is("a parent that comes later", later.under(0, 2, 3), NONE);
        Due.is("a parent that came before", later.under(0, 4, 3), 1);
        PictureReader refused = new TapeMaker().kind(2, 255, 6).kind(3, 2).reader();
        Due.is("a refused parent", refused.about(0, 6), 0);
    }

    /** "how many FIELDS it has (a byte, 0 .. 12)" */
    private static void kindFields() {
        Records.isTaken("no field", 75, 1, 255, 0);
        Records.isTaken("12 fields",
                Records.joined(Records.row(75, 1, 255, 12), Records.filled(12, 5)));
        Records.isHole("13 fields",
                Records.joined(Records.row(75, 1, 255, 13), Records.filled(13, 5)));
        Records.isHole("255 fields",
                Records.joined(Records.row(75, 1, 255, 255), Records.filled(255, 5)));
        Records.isHole("a field less than told", 75, 1, 255, 2, 5);
        Records.isHole("a field more than told", 75, 1, 255, 2, 5, 5, 5);
        Records.isHole("no count", 75, 1, 255);
        Records.isHole("no parent", 75, 1);
        Records.isHole("no number", 75);
    }

    /** "for each its SORT (a byte)": 0 .. 5 */
    private static void fieldSorts() {
        Records.isTaken("sorts 0 to 5", 75, 1, 255, 6, 0, 1, 2, 3, 4, 5);
        Records.isHole("sort 6 first", 75, 1, 255, 3, 6, 0, 0);
        Records.isHole("sort 6 last", 75, 1, 255, 3, 0, 0, 6);
        Records.isHole("sort 128", 75, 1, 255, 1, 128);
        Records.isHole("sort 255", 75, 1, 255, 1, 255);
    }

    // ---- "84 a THING"

    /** "its number (two bytes, 1 up)" */
    private static void thingNumber() {
        Records.isHole("thing 0", 84, 0, 0, 0, 1);
        Records.isTaken("thing 2", 84, 0, 2, 0, 1);
        Records.isTaken("thing 255", 84, 0, 255, 0, 1);
        Records.isTaken("thing 256", 84, 1, 0, 0, 1);
        Records.isTaken("thing 32768", 84, 128, 0, 0, 1);
        Records.isTaken("thing 65535", 84, 255, 255, 0, 1);
        PictureReader x = Records.base().thing(65535, 0, 1).thing(256, 0, 0).reader();
        Due.is("number 65535", x.thing(0, 1), 65535);
        Due.is("number 256", x.thing(0, 2), 256);
        Due.is("-1 is not 65535", x.alive(0, -1), NONE);
        Due.is("65537 is not 1", x.alive(0, 65537), NONE);
        Due.is("-65535 is not 1", x.alive(0, -65535), NONE);
    }

    /** "a THING: there is no such KIND so far" */
    private static void thingKind() {
        Records.isHole("kind 1", 84, 0, 2, 1, 1);
        Records.isHole("kind 40", 84, 0, 2, 40, 1);
        Records.isHole("kind 255", 84, 0, 2, 255, 1);
        PictureReader x = new TapeMaker().thing(1, 5).kind(5, 255).thing(2, 5).reader();
        Due.is("a kind that comes later", x.alive(0, 1), NONE);
        Due.is("a kind that came before", x.alive(0, 2), 0);
        Due.is("its hole", x.hole(0, 0, 1), 4);
    }

    /** "then the values of all FIELDS .. as wide as their SORTS" */
    private static void thingWidth() {
        Records.isHole("no value", 84, 0, 2, 0);
        Records.isHole("a byte too many", 84, 0, 2, 0, 1, 1);
        Records.isHole("no kind", 84, 0, 2);
        Records.isHole("half a number", 84, 0);
        Records.isHole("no number", 84);
        for (int sort = 0; sort < 6; sort++) {
            for (int bytes = 0; bytes <= 9; bytes++) {
                PictureReader x = new TapeMaker().kind(0, 255, sort)
                        .bytes(84, 0, 1, 0).bytes(new int[bytes]).reader();
                boolean whole = bytes == WIDTH[sort];
                Due.is(bytes + " bytes for sort " + sort, x.about(0, 7), whole ? 1 : 0);
                Due.is(bytes + " bytes for sort " + sort, x.about(0, 4), whole ? 0 : 1);
            }
        }
        PictureReader last = new TapeMaker().kind(0, 255, 1).thing(1, 0, 3).reader();
        Due.is("what seems a mark is the last byte", last.value(0, 1, 0), 3 * 256 + 10);
        Due.is("so it is not passed over", last.about(0, 3), 1);
        PictureReader none = new TapeMaker().kind(0, 255).kind(1, 0).thing(1, 1).reader();
        Due.is("no field at all", none.told(0, 1, 2), 0);
        Due.is("no field at all: value", none.value(0, 1, 0), 0);
    }

    /** "those of the PARENT's row first (its own PARENT's ahead, and so on), then its own" */
    private static void parentsFirst() {
        PictureReader x = new TapeMaker().kind(9, 255, 0, 1).kind(8, 9).kind(7, 8, 1, 0)
                .kind(6, 7, 0)
                .thing(1, 6, 1, 0, 2, 0, 3, 4, 5).thing(2, 8, 6, 0, 7).thing(3, 7, 1, 0, 2, 0, 3, 4)
                .reader();
        for (int k = 0; k < 5; k++) {
            Due.is("value " + k + " of the deepest", x.value(0, 1, k), k + 1);
        }
        Due.is("no sixth", x.value(0, 1, 5), 0);
        Due.is("its count", x.told(0, 1, 2), 5);
        Due.is("a kind without its own", x.told(0, 2, 2), 2);
        Due.is("its last", x.value(0, 2, 1), 7);
        Due.is("the third", x.told(0, 3, 2), 4);
    }

    /** "4 a truth (one byte, 0 or 1)"; "a truth is neither 0 nor 1" */
    private static void truths() {
        Records.isTaken("truth 0", 84, 0, 2, 0, 0);
        Records.isTaken("truth 1", 84, 0, 2, 0, 1);
        Records.isHole("truth 2", 84, 0, 2, 0, 2);
        Records.isHole("truth 127", 84, 0, 2, 0, 127);
        Records.isHole("truth 128", 84, 0, 2, 0, 128);
        Records.isHole("truth 255", 84, 0, 2, 0, 255);
        Records.isTaken("row of truths", 82, 0, 2, 4, 0, 2, 0, 1);
        Records.isHole("first element 2", 82, 0, 2, 4, 0, 2, 2, 1);
        Records.isHole("last element 2", 82, 0, 2, 4, 0, 2, 1, 2);
        Records.isHole("element 255", 82, 0, 2, 4, 0, 1, 255);
        Records.isTaken("a byte is no truth", 82, 0, 2, 0, 0, 1, 2);
        PictureReader x = new TapeMaker().kind(0, 255, 0, 4, 0).kind(1, 0, 4)
                .thing(1, 1, 9, 1, 9, 1).thing(2, 1, 9, 2, 9, 1).thing(3, 1, 9, 1, 9, 2).reader();
        Due.is("truths of parent and kind", x.about(0, 7), 1);
        Due.is("a truth is 1", x.value(0, 1, 1), 1);
    }

    // ---- "82 a ROW"

    /** "its number (two bytes, 1 up)" */
    private static void rowNumber() {
        Records.isHole("row 0", 82, 0, 0, 0, 0, 0);
        Records.isTaken("row 2", 82, 0, 2, 0, 0, 0);
        Records.isTaken("row 65535", 82, 255, 255, 0, 0, 0);
    }

    /** "SORT (a byte 0 .. 5)" */
    private static void rowSort() {
        for (int sort = 0; sort <= 5; sort++) {
            Records.isTaken("empty row of sort " + sort, 82, 0, 2, sort, 0, 0);
            Records.isTaken("row of sort " + sort,
                    Records.joined(Records.row(82, 0, 2, sort, 0, 1), new int[WIDTH[sort]]));
        }
        for (int sort : new int[] {6, 7, 128, 255}) {
            Records.isHole("empty row of sort " + sort, 82, 0, 2, sort, 0, 0);
            Records.isHole("row of sort " + sort, 82, 0, 2, sort, 0, 1, 0);
        }
    }

    /** "how many elements (two bytes, 0 .. 1000)" */
    private static void rowElements() {
        Records.isTaken("no element", 82, 0, 2, 0, 0, 0);
        Records.isTaken("256 elements",
                Records.joined(Records.row(82, 0, 2, 0, 1, 0), new int[256]));
        Records.isTaken("1000 elements",
                Records.joined(Records.row(82, 0, 2, 0, 3, 232), new int[1000]));
        Records.isHole("1001 elements",
                Records.joined(Records.row(82, 0, 2, 0, 3, 233), new int[1001]));
        Records.isHole("32768 elements",
                Records.joined(Records.row(82, 0, 2, 0, 128, 0), new int[1000]));
        Records.isHole("65535 elements",
                Records.joined(Records.row(82, 0, 2, 0, 255, 255), new int[1000]));
        Records.isTaken("1000 refs",
                Records.joined(Records.row(82, 0, 2, 5, 3, 232), Records.filled(2000, 1)));

        PictureReader x = new TapeMaker().row(1, 3, 999, Records.filled(7992, 255)).reader();
        Due.is("the widest row", x.told(0, 1, 2), 999);
        Due.is("its size", x.told(0, 1, 3), 8008);
        Due.is("its last element", x.value(0, 1, 998), -1);
        PictureReader y = new TapeMaker().bytes(82, 0, 1, 3, 3, 232).bytes(new int[7994]).reader();
        Due.is("1000 of eight bytes are more than a tape", y.about(0, 7), 0);
        Due.is("a hole of all", y.hole(0, 0, 1), 8000);
    }

    /** "how many elements .., these": no byte less or more */
    private static void rowWidth() {
        for (int sort = 0; sort <= 5; sort++) {
            int[] head = {82, 0, 2, sort, 0, 3};
            Records.isTaken("three of sort " + sort,
                    Records.joined(head, new int[3 * WIDTH[sort]]));
            Records.isHole("a byte less of " + sort,
                    Records.joined(head, new int[3 * WIDTH[sort] - 1]));
            Records.isHole("a byte more of " + sort,
                    Records.joined(head, new int[3 * WIDTH[sort] + 1]));
        }
        Records.isHole("half a count", 82, 0, 2, 0, 0);
        Records.isHole("no count", 82, 0, 2, 0);
        Records.isHole("no sort", 82, 0, 2);
        Records.isHole("half a number", 82, 0);
        Records.isHole("no number", 82);
    }

    // ---- "83 a SOFT thing", "65 a ROOT"

    /** "its number (two bytes, 1 up), one REF" */
    private static void softThing() {
        Records.isHole("soft 0", 83, 0, 0, 0, 1);
        Records.isTaken("soft 2", 83, 0, 2, 0, 1);
        Records.isTaken("soft 65535", 83, 255, 255, 0, 1);
        Records.isTaken("to none", 83, 0, 2, 0, 0);
        Records.isTaken("to 65535", 83, 0, 2, 255, 255);
        Records.isHole("half a ref", 83, 0, 2, 0);
        Records.isHole("no ref", 83, 0, 2);
        Records.isHole("half a number", 83, 0);
        Records.isHole("no number", 83);
        Records.isHole("two refs", 83, 0, 2, 0, 1, 0, 1);
    }

    /** "its SORT (a byte 0 .. 9)" */
    private static void rootSort() {
        Records.isTaken("root of sort 0", 65, 0, 0, 1);
        Records.isTaken("root of sort 9", 65, 9, 0, 1);
        Records.isHole("root of sort 11", 65, 11, 0, 1);
        Records.isHole("root of sort 255", 65, 255, 0, 1);
        // The sort 10 is a mark, too: the hole is the first byte alone, then comes 0, 0, 1.
        PictureReader x = Records.behindBase(65, 10, 0, 0, 1);
        Due.is("root of sort 10: others are read", x.about(0, 1), 3);
        Due.is("root of sort 10: two holes", x.about(0, 4), 2);
        Due.is("root of sort 10: the first", x.hole(0, 0, 1), 1);
        Due.is("root of sort 10: the second", x.hole(0, 1, 1), 3);
    }

    /** "a REF (not 0)" */
    private static void rootRef() {
        Records.isHole("root to 0", 65, 0, 0, 0);
        Records.isTaken("root to 1", 65, 0, 0, 1);
        Records.isTaken("root to 256", 65, 0, 1, 0);
        Records.isTaken("root to 65535", 65, 0, 255, 255);
        Records.isHole("half a ref", 65, 0, 0);
        Records.isHole("no ref", 65, 0);
        Records.isHole("no sort", 65);
        Records.isHole("a byte more", 65, 0, 0, 1, 1);
    }

    /** "its byte .. is not as said" */
    private static void recordByte() {
        for (int first = 0; first < 256; first++) {
            boolean known = first == 75 || first == 84 || first == 82 || first == 83 || first == 65;
            if (!known && first != 10) {
                Records.isHole("first byte " + first, first, 0, 2, 0, 1);
                Records.isHole("alone " + first, first);
            }
        }
    }

    // ---- "10 is a MARK"

    /** "a RECORD that stands there as a whole": a 10 inside it is no MARK */
    private static void markInsideARecord() {
        Records.isTaken("kind 10", 75, 10, 255, 0);
        Records.isTaken("ten fields",
                Records.joined(Records.row(75, 1, 255, 10), Records.filled(10, 0)));
        Records.isTaken("thing 10", 84, 0, 10, 0, 1);
        Records.isTaken("thing 2570", 84, 10, 10, 0, 1);
        Records.isTaken("row 10 of ten bytes that are 10",
                Records.joined(Records.row(82, 0, 10, 0, 0, 10), Records.filled(10, 10)));
        Records.isTaken("soft 10 to 2570", 83, 0, 10, 10, 10);
        Records.isTaken("root to 2570", 65, 0, 10, 10);
        PictureReader x = new TapeMaker().row(1, 0, 2, 10, 10).reader();
        Due.is("one mark alone is passed over", x.about(0, 3), 1);
        Due.is("the others are bytes of the row", x.about(0, 2), 8);
        Due.is("as it is told", x.value(0, 1, 1), 10);
        PictureReader y = new TapeMaker().kind(10, 255, 5).kind(1, 10)
                .thing(1, 10, 10, 10).reader();
        Due.is("kind 10 as parent", y.under(0, 1, 10), 1);
        Due.is("ref 2570", y.ref(0, 1, 0), 2570);
    }

    /** "a MARK is passed over" */
    private static void markOutsideARecord() {
        PictureReader x = new TapeMaker().bytes(Records.filled(8000, 10)).reader();
        int[] due = {8000, 0, 0, 8000, 0, 0, 0, 0, 0, 0, 0, 0, 0};
        for (int what = 0; what < due.length; what++) {
            Due.is("nothing but marks: " + what, x.about(0, what), due[what]);
        }
        PictureReader y = new TapeMaker().mark().mark().root(0, 1).mark()
                .root(0, 2).mark().reader();
        Due.is("many marks", y.about(0, 3), 6);
        Due.is("roots between them", y.about(0, 8), 2);
        Due.is("one mark", new TapeMaker().mark().reader().about(0, 3), 1);
    }

    /** "right behind which THE TAPE ends or a MARK stands" */
    private static void recordAtTheEnd() {
        PictureReader x = new TapeMaker().row(1, 0, 0).bytes(65, 0, 0, 1).reader();
        Due.is("the tape ends behind the root", x.about(0, 8), 1);
        Due.is("alive", x.alive(0, 1), 1);
        TapeMaker full = new TapeMaker();
        for (int i = 0; i < 1599; i++) {
            full.root(0, 1);
        }
        full.bytes(10, 75, 3, 255, 0);
        PictureReader y = full.reader();
        Due.is("the end of a full tape", y.about(0, 0), 8000);
        Due.is("its last record", y.under(0, 3, 3), 1);
    }

    /** "right behind which THE TAPE ends or a MARK stands": any other byte makes a HOLE */
    private static void byteBehindARecord() {
        int[][] records = {{75, 1, 255, 0}, {84, 0, 2, 0, 1}, {82, 0, 2, 0, 0, 1, 7},
            {83, 0, 2, 0, 1}, {65, 0, 0, 1}};
        for (int[] record : records) {
            Records.isTaken("record " + record[0], record);
            for (int behind : new int[] {0, 9, 11, 65, 75, 82, 83, 84, 255}) {
                Records.isHole("record " + record[0] + " and " + behind,
                        Records.joined(record, behind));
            }
            Records.isHole("record " + record[0] + " twice", Records.joined(record, record));
        }
    }

    /** "comes as bytes, also torn ones, and is read as far as it goes" */
    private static void cutAtEachPlace() {
        int[][] records = {{75, 1, 255, 3, 0, 4, 5}, {84, 0, 2, 0, 1},
            {82, 0, 2, 1, 0, 2, 1, 2, 3, 4},
            {83, 0, 2, 0, 1}, {65, 0, 0, 1}};
        for (int[] record : records) {
            for (int length = 1; length < record.length; length++) {
                Records.isHole(record[0] + " cut at " + length, Arrays.copyOf(record, length));
            }
        }
    }
}
