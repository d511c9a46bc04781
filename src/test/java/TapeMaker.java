import java.io.ByteArrayOutputStream;

/** Writes the bytes of a tape, record by record; each record is followed by a mark. */
final class TapeMaker {
    private final ByteArrayOutputStream out = new ByteArrayOutputStream();

    TapeMaker bytes(int... values) {
        for (int value : values) {
            out.write(value);
        }
        return this;
    }

    TapeMaker mark() {
        return bytes(10);
    }

    TapeMaker kind(int number, int parent, int... sorts) {
        return bytes(75, number, parent, sorts.length).bytes(sorts).mark();
    }

    TapeMaker thing(int number, int kind, int... values) {
        return bytes(84, number >> 8, number, kind).bytes(values).mark();
    }

    /** A thing of a kind that has refs alone. */
    TapeMaker node(int number, int kind, int... refs) {
        bytes(84, number >> 8, number, kind);
        for (int ref : refs) {
            bytes(ref >> 8, ref);
        }
        return mark();
    }

    TapeMaker row(int number, int sort, int elements, int... values) {
        return bytes(82, number >> 8, number, sort, elements >> 8, elements).bytes(values).mark();
    }

    TapeMaker refs(int number, int... refs) {
        bytes(82, number >> 8, number, 5, refs.length >> 8, refs.length);
        for (int ref : refs) {
            bytes(ref >> 8, ref);
        }
        return mark();
    }

    TapeMaker soft(int number, int ref) {
        return bytes(83, number >> 8, number, ref >> 8, ref).mark();
    }

    TapeMaker root(int sort, int ref) {
        return bytes(65, sort, ref >> 8, ref).mark();
    }

    int size() {
        return out.size();
    }

    byte[] toBytes() {
        return out.toByteArray();
    }

    /** Feeds all bytes and cuts off what fills up the last twenty. */
    static void feed(PictureReader reader, byte[] tape) {
        for (int at = 0; at < tape.length; at += 20) {
            int[] words = new int[5];
            for (int i = 0; i < 20; i++) {
                int next = at + i < tape.length ? tape[at + i] & 255 : 0;
                words[i / 4] = words[i / 4] << 8 | next;
            }
            int most = at + 20;
            Due.is("feed", reader.feed(words[0], words[1], words[2], words[3], words[4]), most);
        }
        Due.is("end", reader.end(tape.length), tape.length);
    }

    int readInto(PictureReader reader, int picture) {
        feed(reader, toBytes());
        return reader.read(picture);
    }

    PictureReader reader() {
        PictureReader reader = new PictureReader();
        readInto(reader, 0);
        return reader;
    }
}
