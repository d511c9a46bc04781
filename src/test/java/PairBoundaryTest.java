/**
 * The boundary cases of what is told of two pictures: promises 21 to 23.
 * Each method has the sentence of the document that it tests above it.
 */
public final class PairBoundaryTest {
    private static final int NONE = PictureReader.NONE;
    private static final int NO_GROWTH = -100000;
    private static final int MIN = Integer.MIN_VALUE;
    private static final int MAX = Integer.MAX_VALUE;
    private static final int[] NO_PICTURES = {-1, 3, 256, 65536, MIN, MAX};

    private PairBoundaryTest() {
    }

    public static void main(String[] args) {
        onlyInTheSecond();
        onlyInTheFirst();
        ofAnotherSort();
        withOtherValues();
        withAnotherCount();
        asValueTellsThem();
        allTheSame();
        whatDoesNotMatter();
        anEmptyPicture();
        theSamePicture();
        allThings();
        differRefused();
        differsRefused();
        risingNumbers();
        grownOfOneKind();
        grownBelowZero();
        grownOfNoneRead();
        grownRefused();
        Due.finish();
    }

    private static PictureReader two(TapeMaker first, TapeMaker second) {
        PictureReader x = new PictureReader();
        first.readInto(x, 0);
        second.readInto(x, 1);
        return x;
    }

    /** The five answers of differ(0, 1, ..). */
    private static void isDifferent(String name, PictureReader x, int... due) {
        for (int how = 0; how < 5; how++) {
            Due.is(name + ", how " + how, x.differ(0, 1, how), due[how]);
        }
    }

    /** The single thing 1, which is in both pictures, stands in the one way that is due. */
    private static void isHow(String name, int how, TapeMaker first, TapeMaker second) {
        PictureReader x = two(first, second);
        for (int other = 0; other < 5; other++) {
            Due.is(name + ", how " + other, x.differ(0, 1, other), other == how ? 1 : 0);
            Due.is(name + ", back " + other, x.differ(1, 0, other), other == how ? 1 : 0);
            Due.is(name + ", which " + other, x.differs(0, 1, other, 0), other == how ? 1 : NONE);
        }
    }

    private static TapeMaker row(int sort, int count, int... bytes) {
        return new TapeMaker().row(1, sort, count, bytes);
    }

    private static TapeMaker made() {
        return new TapeMaker();
    }

    // ---- promise 21: differ

    /** "how 0 are in the second picture, not in the first" */
    private static void onlyInTheSecond() {
        PictureReader x = two(made().soft(1, 0), made().soft(1, 0).soft(2, 0).row(65535, 0, 0));
        isDifferent("two more", x, 2, 0, 0, 0, 1);
        Due.is("the first of them", x.differs(0, 1, 0, 0), 2);
        Due.is("the second of them", x.differs(0, 1, 0, 1), 65535);
        Due.is("no third", x.differs(0, 1, 0, 2), NONE);
    }

    /** "1 in the first, not in the second" */
    private static void onlyInTheFirst() {
        PictureReader x = two(made().soft(1, 0).soft(2, 0).row(65535, 0, 0), made().soft(1, 0));
        isDifferent("two less", x, 0, 2, 0, 0, 1);
        Due.is("the first of them", x.differs(0, 1, 1, 0), 2);
        Due.is("the second of them", x.differs(0, 1, 1, 1), 65535);
        Due.is("no third", x.differs(0, 1, 1, 2), NONE);
    }

    /** "2 in both, but of another sort or KIND, or (ROWS) SORT" */
    private static void ofAnotherSort() {
        TapeMaker kinds = made().kind(0, 255).kind(1, 0).thing(1, 0);
        isHow("a thing and a row", 2, kinds, row(0, 0));
        isHow("a row and a soft thing", 2, row(5, 1, 0, 7), made().soft(1, 7));
        isHow("a thing and a soft thing", 2, made().kind(0, 255, 5).node(1, 0, 7),
                made().soft(1, 7));
        isHow("another kind", 2, kinds, made().kind(0, 255).kind(1, 0).thing(1, 1));
        isHow("another sort of row, both empty", 2, row(0, 0), row(4, 0));
        isHow("another sort of row, the same values", 2, row(0, 2, 0, 1), row(4, 2, 0, 1));
        isHow("another sort, other values", 2, row(0, 2, 0, 1), row(1, 1, 5, 5));
        isHow("thing of kind 5, row of sort 5", 2, made().kind(5, 255).thing(1, 5), row(5, 0));
    }

    /** "3 in both, alike in this, with other values or elements" */
    private static void withOtherValues() {
        TapeMaker kind = made().kind(0, 255, 0, 3);
        isHow("the first value", 3, kind.thing(1, 0, 1, 0, 0, 0, 0, 0, 0, 0, 0),
                made().kind(0, 255, 0, 3).thing(1, 0, 2, 0, 0, 0, 0, 0, 0, 0, 0));
        isHow("the highest byte of the last value", 3, kind,
                made().kind(0, 255, 0, 3).thing(1, 0, 1, 128, 0, 0, 0, 0, 0, 0, 0));
        isHow("the first element", 3, row(0, 3, 1, 2, 3), row(0, 3, 0, 2, 3));
        isHow("the last element", 3, row(0, 3, 1, 2, 3), row(0, 3, 1, 2, 4));
        isHow("a truth", 3, row(4, 1, 0), row(4, 1, 1));
        isHow("the ref of a soft thing", 3, made().soft(1, 1), made().soft(1, 2));
        isHow("a soft thing to none", 3, made().soft(1, 1), made().soft(1, 0));
    }

    /** "or another count of these" */
    private static void withAnotherCount() {
        isHow("a row that is longer by a 0", 3, row(0, 2, 1, 2), row(0, 3, 1, 2, 0));
        isHow("an empty row", 3, row(0, 0), row(0, 1, 0));
        isHow("a kind that has another field", 3, made().kind(0, 255, 0).thing(1, 0, 7),
                made().kind(0, 255, 0, 0).thing(1, 0, 7, 0));
        isHow("a kind that has lost all fields", 3, made().kind(0, 255, 0).thing(1, 0, 0),
                made().kind(0, 255).thing(1, 0));
    }

    /** "(as value() tells them)": not their bytes */
    private static void asValueTellsThem() {
        isHow("-1 in one byte and in eight", 4, made().kind(0, 255, 0).thing(1, 0, 255),
                made().kind(0, 255, 3).thing(1, 0, 255, 255, 255, 255, 255, 255, 255, 255));
        isHow("-1 and 255", 3, made().kind(0, 255, 0).thing(1, 0, 255),
                made().kind(0, 255, 1).thing(1, 0, 0, 255));
        isHow("-1 and the ref 65535", 3, made().kind(0, 255, 1).thing(1, 0, 255, 255),
                made().kind(0, 255, 5).thing(1, 0, 255, 255));
        isHow("the same bytes, as one or two numbers", 3,
                made().kind(0, 255, 1).thing(1, 0, 0, 1),
                made().kind(0, 255, 0, 0).thing(1, 0, 0, 1));
        isHow("a truth and a byte", 4, made().kind(0, 255, 4).thing(1, 0, 1),
                made().kind(0, 255, 0).thing(1, 0, 1));
    }

    /** "4 in both and all the same" */
    private static void allTheSame() {
        isHow("no value", 4, made().kind(0, 255).thing(1, 0), made().kind(0, 255).thing(1, 0));
        isHow("an empty row", 4, row(3, 0), row(3, 0));
        isHow("a soft thing", 4, made().soft(1, 65535), made().soft(1, 65535));
        isHow("a row", 4, row(2, 1, 1, 2, 3, 4), row(2, 1, 1, 2, 3, 4));
        isHow("with its parent's values", 4,
                made().kind(0, 255, 0).kind(1, 0, 0).thing(1, 1, 1, 2),
                made().kind(1, 255, 0, 0).thing(1, 1, 1, 2));
    }

    /** What is not named there does not matter: the place, what leads to it, whether it lives. */
    private static void whatDoesNotMatter() {
        PictureReader x = two(made().refs(1, 2).refs(2, 9).refs(3, 1).root(0, 1),
                made().bytes(7).mark().refs(3, 1).refs(2, 9).refs(1, 2).refs(9));
        isDifferent("another order", x, 1, 0, 0, 0, 3);
        Due.is("dead now", x.alive(1, 1), 0);
    }

    /** "are in the second picture, not in the first": one of them has nothing */
    private static void anEmptyPicture() {
        PictureReader x = two(made(), made().soft(5, 0).soft(2, 0));
        isDifferent("the first is empty", x, 2, 0, 0, 0, 0);
        Due.is("rising", x.differs(0, 1, 0, 0), 2);
        PictureReader y = two(made().soft(5, 0).soft(2, 0), made());
        isDifferent("the second is empty", y, 0, 2, 0, 0, 0);
        Due.is("rising", y.differs(0, 1, 1, 1), 5);
        PictureReader z = two(made(), made());
        isDifferent("both are empty", z, 0, 0, 0, 0, 0);
        Due.is("none", z.differs(0, 1, 4, 0), NONE);
    }

    /** The first and the second may be the same picture. */
    private static void theSamePicture() {
        PictureReader x = two(made(), made().soft(5, 0).row(2, 0, 1, 9));
        int[] due = {0, 0, 0, 0, 2};
        for (int how = 0; how < 5; how++) {
            Due.is("how " + how, x.differ(1, 1, how), due[how]);
        }
        Due.is("the last", x.differs(1, 1, 4, 1), 5);
        Due.is("no more", x.differs(1, 1, 4, 2), NONE);
        Due.is("grown", x.grown(1, 1, 0), 0);
    }

    /** 600 THINGS in a picture, and none of them in the other. */
    private static void allThings() {
        PictureReader x = new PictureReader();
        TapeMaker tape = made();
        for (int i = 1; i <= 600; i++) {
            tape.soft(65536 - i, 0);
        }
        tape.readInto(x, 2);
        Due.is("all", x.differ(0, 2, 0), 600);
        Due.is("all back", x.differ(2, 0, 1), 600);
        Due.is("the first", x.differs(0, 2, 0, 0), 65536 - 600);
        Due.is("the last", x.differs(0, 2, 0, 599), 65535);
        Due.is("none behind it", x.differs(0, 2, 0, 600), NONE);
        Due.is("the same", x.differ(2, 2, 4), 600);
    }

    /** "NONE: no such picture, how." */
    private static void differRefused() {
        PictureReader x = two(made().soft(1, 0), made().soft(1, 0));
        for (int p : NO_PICTURES) {
            Due.is("first " + p, x.differ(p, 0, 0), NONE);
            Due.is("second " + p, x.differ(0, p, 0), NONE);
            Due.is("both " + p, x.differ(p, p, 4), NONE);
        }
        for (int how : new int[] {-1, 5, 6, 256, MIN, MAX}) {
            Due.is("how " + how, x.differ(0, 1, how), NONE);
            Due.is("how " + how, x.differ(0, 0, how), NONE);
        }
        Due.is("how 4", x.differ(0, 1, 4), 1);
        Due.is("picture 2", x.differ(0, 2, 1), 1);
    }

    // ---- promise 22: differs

    /** "The i-th of these .. NONE." */
    private static void differsRefused() {
        PictureReader x = two(made().soft(1, 0), made().soft(1, 0));
        for (int p : NO_PICTURES) {
            Due.is("first " + p, x.differs(p, 0, 0, 0), NONE);
            Due.is("second " + p, x.differs(0, p, 0, 0), NONE);
        }
        for (int how : new int[] {-1, 5, 6, 256, MIN, MAX}) {
            Due.is("how " + how, x.differs(0, 1, how, 0), NONE);
        }
        for (int i : new int[] {-1, 1, 2, 600, MIN, MAX}) {
            Due.is("i " + i, x.differs(0, 1, 4, i), NONE);
        }
        for (int how = 0; how < 4; how++) {
            Due.is("there is none of " + how, x.differs(0, 1, how, 0), NONE);
        }
        Due.is("there is one", x.differs(0, 1, 4, 0), 1);
    }

    /** "by their numbers, rising": not in the order in which they were read */
    private static void risingNumbers() {
        PictureReader x = two(
                made().soft(300, 1).soft(9, 1).row(256, 0, 0).soft(255, 0).soft(2, 0).row(70, 0, 0)
                        .row(30, 0, 0).soft(40, 1).soft(41, 1),
                made().soft(257, 0).soft(300, 2).soft(9, 3).soft(256, 0).soft(70, 0).soft(4, 0)
                        .soft(41, 1).soft(40, 1));
        int[][] due = {{4, 257}, {2, 30, 255}, {70, 256}, {9, 300}, {40, 41}};
        for (int how = 0; how < 5; how++) {
            Due.is("how " + how, x.differ(0, 1, how), due[how].length);
            for (int i = 0; i < due[how].length; i++) {
                Due.is("how " + how + " " + i, x.differs(0, 1, how, i), due[how][i]);
            }
            Due.is("no more of " + how, x.differs(0, 1, how, due[how].length), NONE);
        }
    }

    // ---- promise 23: grown

    /** "THINGS of a KIND (not of those under it)" */
    private static void grownOfOneKind() {
        PictureReader x = two(made().kind(0, 255).kind(1, 0).thing(1, 0),
                made().kind(0, 255).kind(1, 0).thing(1, 0).thing(2, 1).thing(3, 1)
                        .row(4, 0, 0).row(5, 1, 0).soft(6, 0));
        Due.is("none of kind 0; a soft thing or a row of sort 0 is none", x.grown(0, 1, 0), 0);
        Due.is("two of kind 1; a row of sort 1 is none", x.grown(0, 1, 1), 2);
    }

    /** "(.. it may be below 0)" */
    private static void grownBelowZero() {
        TapeMaker tape = made().kind(39, 255);
        for (int i = 1; i <= 600; i++) {
            tape.thing(i, 39);
        }
        PictureReader x = two(tape, made().kind(39, 255).thing(1, 39));
        Due.is("less", x.grown(0, 1, 39), -599);
        Due.is("more", x.grown(1, 0, 39), 599);
        Due.is("all gone", x.grown(0, 2, 39), -600);
        Due.is("one gone: -1 is no refusal", x.grown(1, 2, 39), -1);
        Due.is("the same", x.grown(0, 0, 39), 0);
    }

    /** "(0 of one that was not read ..)" */
    private static void grownOfNoneRead() {
        PictureReader x = two(made().kind(0, 255).thing(1, 0), made().kind(5, 255).thing(1, 5));
        Due.is("in neither", x.grown(0, 1, 7), 0);
        Due.is("in the first alone", x.grown(0, 1, 0), -1);
        Due.is("in the second alone", x.grown(0, 1, 5), 1);
        Due.is("of empty pictures", x.grown(2, 2, 39), 0);
    }

    /** "-100000: no such picture, or no KIND 0 .. 39" */
    private static void grownRefused() {
        PictureReader x = two(made().kind(0, 255).thing(1, 0), made().kind(0, 255));
        for (int p : NO_PICTURES) {
            Due.is("first " + p, x.grown(p, 0, 0), NO_GROWTH);
            Due.is("second " + p, x.grown(0, p, 0), NO_GROWTH);
            Due.is("both " + p, x.grown(p, p, 0), NO_GROWTH);
        }
        for (int kind : new int[] {-1, 40, 41, 255, 256, MIN, MAX}) {
            Due.is("kind " + kind, x.grown(0, 1, kind), NO_GROWTH);
        }
        Due.is("kind 39", x.grown(0, 1, 39), 0);
        Due.is("kind 0", x.grown(0, 1, 0), -1);
    }
}
