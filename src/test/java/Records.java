import java.util.Arrays;

/** Tries one record, written by its bytes, behind a kind with one truth and a thing of it. */
final class Records {
    private Records() {
    }

    static TapeMaker base() {
        return new TapeMaker().kind(0, 255, 4).thing(1, 0, 1);
    }

    /** A root stands behind the record: so it is seen that reading goes on there. */
    static PictureReader behindBase(int... record) {
        return base().bytes(record).mark().root(9, 1).reader();
    }

    /** The record is read where a mark stands behind it, and where the tape ends. */
    static void isTaken(String name, int... record) {
        PictureReader x = behindBase(record);
        Due.is(name + ": read", x.about(0, 1), 4);
        Due.is(name + ": bytes read", x.about(0, 2), 9 + record.length + 4 + 1);
        Due.is(name + ": no hole", x.about(0, 4), 0);
        PictureReader y = base().bytes(record).reader();
        Due.is(name + ": read at the end", y.about(0, 1), 3);
        Due.is(name + ": no hole at the end", y.about(0, 4), 0);
    }

    /** The record, which has no byte 10, is a hole up to the mark, and reading goes on there. */
    static void isHole(String name, int... record) {
        PictureReader x = behindBase(record);
        Due.is(name + ": others are read", x.about(0, 1), 3);
        Due.is(name + ": one hole", x.about(0, 4), 1);
        Due.is(name + ": where", x.hole(0, 0, 0), base().size());
        Due.is(name + ": how many", x.hole(0, 0, 1), record.length);
        Due.is(name + ": the root behind it", x.alive(0, 1), 1);
        PictureReader y = base().bytes(record).reader();
        Due.is(name + ": not read at the end", y.about(0, 1), 2);
        Due.is(name + ": a hole up to the end", y.hole(0, 0, 1), record.length);
    }

    static int[] row(int... bytes) {
        return bytes;
    }

    static int[] filled(int length, int value) {
        int[] row = new int[length];
        Arrays.fill(row, value);
        return row;
    }

    static int[] joined(int[] head, int... more) {
        int[] all = Arrays.copyOf(head, head.length + more.length);
        System.arraycopy(more, 0, all, head.length, more.length);
        return all;
    }
}
