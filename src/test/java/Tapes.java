import java.util.zip.Adler32;

/** What several tests need: bytes with a CHECK, and all that can be seen of an object. */
final class Tapes {
    /** Mark and a START of -2, 258, 63, 255. */
    static final int[] HEAD = {77, 68, 1, 255, 254, 1, 2, 63, 255};

    /** An x or y, and its high and its low byte. */
    static final int[][] PLACES = {{-32768, 128, 0}, {-32767, 128, 1}, {-257, 254, 255}, {-256, 255, 0},
        {-255, 255, 1}, {-1, 255, 255}, {0, 0, 0}, {1, 0, 1}, {255, 0, 255}, {256, 1, 0}, {32767, 127, 255}};

    private Tapes() {
    }

    static int[] join(int[]... parts) {
        int size = 0;
        for (int[] part : parts) {
            size += part.length;
        }
        int[] all = new int[size];
        int at = 0;
        for (int[] part : parts) {
            System.arraycopy(part, 0, all, at, part.length);
            at += part.length;
        }
        return all;
    }

    /** These bytes and the CHECK of them, which is known elsewhere as Adler-32. */
    static int[] checked(int[]... parts) {
        int[] bytes = join(parts);
        Adler32 adler = new Adler32();
        for (int b : bytes) {
            adler.update(b);
        }
        long sum = adler.getValue();
        int[] check = {(int) (sum >> 24), (int) (sum >> 16) & 255, (int) (sum >> 8) & 255, (int) sum & 255};
        return join(bytes, check);
    }

    /** HEAD, these GROUPS, the end and the CHECK. */
    static int[] whole(int... groups) {
        return checked(HEAD, groups, new int[] {0});
    }

    static int[] repeated(int times, int... bytes) {
        int[] all = new int[times * bytes.length];
        for (int k = 0; k < all.length; k++) {
            all[k] = bytes[k % bytes.length];
        }
        return all;
    }

    /** All INPUT BYTES of the object, eight a call, so that few calls are used. */
    static void giveAll(DemoTape tape, int[] bytes) {
        tape.cut(0);
        for (int at = 0; at < bytes.length; at += 8) {
            int n = Math.min(8, bytes.length - at);
            if (!tape.give(packed(bytes, at, n), n)) {
                throw new IllegalStateException("no room for what the test gives");
            }
        }
    }

    /** What give takes for n of these bytes, from one on. */
    static long packed(int[] bytes, int from, int n) {
        long v = 0;
        for (int k = from; k < from + n; k++) {
            v = v << 8 | bytes[k];
        }
        return v;
    }

    static DemoTape given(int[] bytes) {
        DemoTape tape = new DemoTape();
        giveAll(tape, bytes);
        return tape;
    }

    /** An INPUT by a call of its own that needs no count. */
    static int one(DemoTape tape, int ahead, int aside, int turn, boolean uses) {
        return tape.record(ahead, aside, turn, uses, 1);
    }

    /** 1024 INPUTS of which no two neighbours are equal, each of four bytes, in eleven calls. */
    static DemoTape longest() {
        DemoTape tape = new DemoTape();
        one(tape, 64, 64, 16, true);
        one(tape, -64, -64, -16, false);
        for (int n = 2; n < 1024; n += n) {
            tape.again(0, n);
        }
        return tape;
    }

    /** All that can be seen of an object whose record and bytes are short. */
    static String seen(DemoTape tape) {
        StringBuilder text = new StringBuilder("look");
        for (int which = 0; which <= 6; which++) {
            text.append(' ').append(tape.look(which));
        }
        return text.append(seenRecord(tape)).append(seenBytes(tape, false)).append(seenBytes(tape, true)).toString();
    }

    static String seenRecord(DemoTape tape) {
        StringBuilder text = new StringBuilder(" start");
        for (int what = 0; what < 4; what++) {
            text.append(' ').append(tape.begin(what));
        }
        int count = tape.look(0);
        for (int i = 0; i < count; i++) {
            text.append(" (");
            for (int what = 0; what < 4; what++) {
                text.append(what == 0 ? "" : " ").append(tape.input(i, what));
            }
            text.append(')');
        }
        return text.toString();
    }

    static String seenBytes(DemoTape tape, boolean into) {
        StringBuilder text = new StringBuilder(into ? " in" : " out");
        int count = tape.look(into ? 3 : 2);
        for (int k = 0; k < count; k++) {
            text.append(' ').append(tape.byteAt(k, into));
        }
        return text.toString();
    }

    static String textOf(boolean into, int... bytes) {
        StringBuilder text = new StringBuilder(into ? " in" : " out");
        for (int b : bytes) {
            text.append(' ').append(b);
        }
        return text.toString();
    }
}
