import java.util.ArrayList;
import java.util.List;
import java.util.function.ToLongFunction;

/**
 * Part 3 of the terms: "NONE (-1): there is no such picture, thing, place, or a number is not as
 * said. What is refused changes nothing." After each refused call an object answers every call
 * as one does that was not asked.
 */
public final class RefusalTest {
    private static final int MIN = Integer.MIN_VALUE;
    private static final int MAX = Integer.MAX_VALUE;
    private static final int[] NO_PICTURES = {-1, 3, 256, MIN, MAX};
    private static final int[] NO_THINGS = {0, -1, 6, 65536, 65537, MIN, MAX};
    private static final int[] FAR = {-1, 600, MIN, MAX};
    private static final List<Refused> REFUSED = new ArrayList<>();

    private record Refused(String name, long due, ToLongFunction<PictureReader> call) {
    }

    private RefusalTest() {
    }

    public static void main(String[] args) {
        listTape();
        listThings();
        listPlaces();
        listPairs();
        List<Long> untouched = answers(prepared());
        for (Refused refused : REFUSED) {
            PictureReader x = prepared();
            Due.is(refused.name, refused.call.applyAsLong(x), refused.due);
            List<Long> after = answers(x);
            Due.is(refused.name + " changes nothing", after.equals(untouched) ? 1 : 0, 1);
        }
        fullTape();
        Due.finish();
    }

    /** Two pictures, a way of two things, and a tape that is not read yet. */
    private static PictureReader prepared() {
        PictureReader x = new PictureReader();
        new TapeMaker().bytes(7).mark().kind(0, 255, 5).kind(1, 0, 4).node(1, 0, 2)
                .thing(2, 1, 0, 3, 1).soft(3, 4).row(4, 0, 1, 7).row(5, 0, 1, 7).root(0, 1)
                .readInto(x, 0);
        new TapeMaker().kind(0, 255, 5).node(1, 0, 9).row(4, 1, 0).readInto(x, 1);
        x.way(0, 2, 0);
        TapeMaker.feed(x, new TapeMaker().row(8, 0, 3, 1, 2, 3).root(0, 8).toBytes());
        return x;
    }

    private static List<Long> answers(PictureReader x) {
        List<Long> all = new ArrayList<>();
        for (int k = 0; k < 3; k++) {
            all.add((long) x.step(k));
        }
        ofPicture(all, x, 0);
        ofPicture(all, x, 1);
        for (int how = 0; how < 5; how++) {
            all.add((long) x.differ(0, 1, how));
            all.add((long) x.differs(0, 1, how, 0));
        }
        // The tape is as long as it was, and has the same bytes.
        all.add((long) x.end(17));
        all.add((long) x.end(15));
        all.add((long) x.read(2));
        ofPicture(all, x, 2);
        for (int k = 0; k < 4; k++) {
            all.add(x.value(2, 8, k));
        }
        return all;
    }

    private static void ofPicture(List<Long> all, PictureReader x, int p) {
        for (int what = 0; what <= 12; what++) {
            all.add((long) x.about(p, what));
        }
        all.add((long) x.hole(p, 0, 1));
        all.add((long) x.groups(p));
        all.add((long) x.group(p, 0, 2));
        all.add((long) x.under(p, 1, 0));
        for (int i = 0; i <= 5; i++) {
            all.add((long) x.thing(p, i));
            all.add((long) x.top(p, i));
            all.add((long) x.told(p, i, 4));
            all.add((long) x.told(p, i, 6));
            all.add(x.value(p, i, 0));
            all.add((long) x.ref(p, i, 0));
            all.add((long) x.alive(p, i));
            all.add((long) x.keeper(p, i));
            all.add((long) x.kept(p, i));
            all.add((long) x.height(p, i));
        }
    }

    private static void none(String name, ToLongFunction<PictureReader> call) {
        REFUSED.add(new Refused(name, PictureReader.NONE, call));
    }

    private static void listTape() {
        for (int n : new int[] {-1, 16, 17, 20, 8000, 8001, MIN, MAX}) {
            none("end " + n, x -> x.end(n));
        }
        for (int p : NO_PICTURES) {
            none("read " + p, x -> x.read(p));
            none("about " + p, x -> x.about(p, 0));
            none("groups " + p, x -> x.groups(p));
            none("way " + p, x -> x.way(p, 1, 0));
        }
        for (int what : new int[] {-1, 13, MIN, MAX}) {
            none("about 0 " + what, x -> x.about(0, what));
        }
    }

    private static void listThings() {
        for (int thing : NO_THINGS) {
            none("told of " + thing, x -> x.told(0, thing, 0));
            none("ref of " + thing, x -> x.ref(0, thing, 0));
            none("alive " + thing, x -> x.alive(0, thing));
            none("keeper " + thing, x -> x.keeper(0, thing));
            none("kept " + thing, x -> x.kept(0, thing));
            none("height " + thing, x -> x.height(0, thing));
            none("way to " + thing, x -> x.way(0, thing, 1));
            REFUSED.add(new Refused("value of " + thing, 0, x -> x.value(0, thing, 0)));
        }
        none("keeper of a dead one", x -> x.keeper(0, 4));
        none("kept of a dead one", x -> x.kept(0, 4));
        none("height of a dead one", x -> x.height(0, 4));
        for (int soft : new int[] {-1, 2, MIN, MAX}) {
            none("way soft " + soft, x -> x.way(0, 1, soft));
        }
        REFUSED.add(new Refused("a way that is not there", 0, x -> x.way(0, 5, 1)));
    }

    private static void listPlaces() {
        for (int far : FAR) {
            none("hole " + far, x -> x.hole(0, far, 0));
            none("hole what " + far, x -> x.hole(0, 0, far));
            none("thing " + far, x -> x.thing(0, far));
            none("told what " + far, x -> x.told(0, 1, far));
            none("ref " + far, x -> x.ref(0, 1, far));
            none("under " + far, x -> x.under(0, far, 0));
            none("under 0 " + far, x -> x.under(0, 0, far));
            none("step " + far, x -> x.step(far));
            none("group " + far, x -> x.group(0, far, 0));
            none("group what " + far, x -> x.group(0, 0, far));
            none("top " + far, x -> x.top(0, far));
            REFUSED.add(new Refused("value " + far, 0, x -> x.value(0, 1, far)));
        }
    }

    private static void listPairs() {
        for (int p : NO_PICTURES) {
            none("differ " + p, x -> x.differ(p, 0, 0));
            none("differ 0 " + p, x -> x.differ(0, p, 0));
            none("differs " + p, x -> x.differs(p, 0, 0, 0));
            none("differs 0 " + p, x -> x.differs(0, p, 0, 0));
            REFUSED.add(new Refused("grown " + p, -100000, x -> x.grown(p, 0, 0)));
            REFUSED.add(new Refused("grown 0 " + p, -100000, x -> x.grown(0, p, 0)));
        }
        for (int far : FAR) {
            none("differ how " + far, x -> x.differ(0, 1, far));
            none("differs how " + far, x -> x.differs(0, 1, far, 0));
            none("differs " + far, x -> x.differs(0, 1, 4, far));
            REFUSED.add(new Refused("grown kind " + far, -100000, x -> x.grown(0, 1, far)));
        }
    }

    /** A feed that is refused leaves a full tape as it was, byte by byte. */
    private static void fullTape() {
        PictureReader x = new PictureReader();
        int[] bytes = new int[999 * 8];
        for (int i = 0; i < bytes.length; i++) {
            bytes[i] = i * 7;
        }
        TapeMaker tape = new TapeMaker().row(1, 3, 999, bytes).mark();
        TapeMaker.feed(x, tape.toBytes());
        Due.is("feed", x.feed(-1, -1, -1, -1, -1), PictureReader.NONE);
        Due.is("still full", x.end(8000), 8000);
        Due.is("read", x.read(1), 1);
        for (int k : new int[] {0, 1, 500, 997, 998}) {
            long due = 0;
            for (int i = 0; i < 8; i++) {
                due = due << 8 | (k * 8 + i) * 7 & 255;
            }
            Due.is("element " + k, x.value(1, 1, k), due);
        }
        Due.is("two marks", x.about(1, 3), 2);
    }
}
