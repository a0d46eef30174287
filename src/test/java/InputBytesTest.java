import java.util.Arrays;

/** Promises 7 to 10, and the INPUT BYTES of promises 14 and 15. */
public final class InputBytesTest {
    private static final int[] FAR = {Integer.MIN_VALUE, Integer.MAX_VALUE};

    private static final Due DUE = new Due();

    public static void main(String[] args) {
        giveLowestBytes();
        giveCounts();
        mostBytesOf512Calls();
        giveUpTo8192();
        cutAndPokeOf8192();
        turnOverCopies();
        turnOverShortens();
        cutKeepsTheFirst();
        cutUpToAll();
        pokePlaces();
        pokeLowestBits();
        DUE.finish();
    }

    private static void dueInput(String what, DemoTape tape, int... bytes) {
        DUE.is(what + ": INPUT BYTES", tape.look(3), bytes.length);
        DUE.same(what, Tapes.seenBytes(tape, true), Tapes.textOf(true, bytes));
    }

    private static void giveLowestBytes() {
        long v = 0xF1E2D3C4B5A69788L;
        int[] all = {0xF1, 0xE2, 0xD3, 0xC4, 0xB5, 0xA6, 0x97, 0x88};
        int[] given = {};
        DemoTape tape = new DemoTape();
        for (int n = 1; n <= 8; n++) {
            DUE.yes("give of " + n, tape.give(v, n));
            int[] last = new int[n];
            System.arraycopy(all, 8 - n, last, 0, n);
            given = Tapes.join(given, last);
        }
        dueInput("give of 1 .. 8", tape, given);
        tape = new DemoTape();
        tape.give(-1, 2);
        tape.give(1, 3);
        dueInput("give of -1 and 1", tape, 255, 255, 0, 0, 1);
    }

    private static void giveCounts() {
        DemoTape tape = new DemoTape();
        tape.give(5, 1);
        for (int n : new int[] {0, -1, 9, FAR[0], FAR[1]}) {
            DUE.no("give of " + n, tape.give(1, n));
            dueInput("none came", tape, 5);
        }
        DUE.yes("give of 1", tape.give(6, 1));
        dueInput("one came", tape, 5, 6);
        DUE.yes("give of 8", tape.give(Long.MIN_VALUE, 8));
        dueInput("eight came", tape, 5, 6, 128, 0, 0, 0, 0, 0, 0, 0);
    }

    /** The most that 512 calls can bring: bytes of the longest RECORD, and eight more by each call that is left. */
    private static void mostBytesOf512Calls() {
        DemoTape tape = Tapes.longest();
        tape.write();
        tape.turnOver();
        int calls = 13;
        for (; calls < 512 - 5; calls++) {
            DUE.yes("give of eight", tape.give(-1, 8));
        }
        DUE.is("INPUT BYTES", tape.look(3), 4110 + 8 * (calls - 13));
        DUE.is("read()", tape.read(), 7);
        DUE.is("its place", tape.look(5), 4110);
        DUE.yes("cut", tape.cut(4110));
        DUE.is("read()", tape.read(), 0);
    }

    /** No 512 calls reach this limit; the program keeps it all the same. */
    private static DemoTape sevenFit() {
        DemoTape tape = new DemoTape();
        tape.write();
        tape.turnOver();
        tape.give(7, 3);
        for (int k = 0; k < 1021; k++) {
            DUE.yes("give of eight", tape.give(k, 8));
        }
        DUE.is("INPUT BYTES", tape.look(3), 8185);
        return tape;
    }

    private static void giveUpTo8192() {
        for (int n = 1; n <= 8; n++) {
            DemoTape tape = sevenFit();
            DUE.is("give of " + n + " where seven fit", tape.give(-1, n) ? 1 : 0, n < 8 ? 1 : 0);
            DUE.is("INPUT BYTES", tape.look(3), n < 8 ? 8185 + n : 8185);
            DUE.is("the first that came", tape.byteAt(8185, true), n < 8 ? 255 : -1);
        }
        DemoTape tape = sevenFit();
        tape.give(-1, 7);
        DUE.no("give of one where none fits", tape.give(1, 1));
        DUE.no("give of eight where none fits", tape.give(1, 8));
        DUE.is("INPUT BYTES", tape.look(3), 8192);
        DUE.is("the last one", tape.byteAt(8191, true), 255);
        DUE.is("none behind it", tape.byteAt(8192, true), -1);
        DUE.is("read() of the most bytes", tape.read(), 7);
        DUE.is("its place", tape.look(5), 14);
    }

    private static void cutAndPokeOf8192() {
        DemoTape tape = sevenFit();
        tape.give(-1, 7);
        DUE.yes("poke of the last one", tape.poke(8191, 3));
        DUE.no("poke behind it", tape.poke(8192, 4));
        DUE.is("the last one", tape.byteAt(8191, true), 3);
        DUE.no("cut beyond all", tape.cut(8193));
        DUE.yes("cut of nothing", tape.cut(8192));
        DUE.is("INPUT BYTES", tape.look(3), 8192);
        DUE.yes("cut of one", tape.cut(8191));
        DUE.no("give of two where one fits", tape.give(4, 2));
        DUE.yes("give of one where one fits", tape.give(4, 1));
        DUE.is("the last one", tape.byteAt(8191, true), 4);
        DUE.yes("cut of all", tape.cut(0));
        DUE.is("INPUT BYTES", tape.look(3), 0);
        DUE.yes("give of eight", tape.give(1, 8));
    }

    private static void turnOverCopies() {
        DemoTape tape = new DemoTape();
        tape.record(1, 2, 3, true, 3);
        tape.write();
        String record = Tapes.seenRecord(tape);
        String output = Tapes.seenBytes(tape, false);
        tape.turnOver();
        DUE.same("INPUT BYTES are the OUTPUT BYTES", Tapes.seenBytes(tape, true), output.replace("out", "in"));
        tape.poke(0, 1);
        tape.give(5, 1);
        DUE.same("OUTPUT BYTES stay behind poke and give", Tapes.seenBytes(tape, false), output);
        tape.turnOver();
        String input = Tapes.seenBytes(tape, true);
        DUE.same("turnOver once more", input, output.replace("out", "in"));
        DUE.same("THE RECORD stays", Tapes.seenRecord(tape), record);
        tape.undo(3);
        tape.write();
        DUE.same("INPUT BYTES stay behind write", Tapes.seenBytes(tape, true), input);
    }

    private static void turnOverShortens() {
        DemoTape tape = new DemoTape();
        tape.give(1, 8);
        tape.turnOver();
        dueInput("turnOver without OUTPUT BYTES", tape);
        tape = Tapes.longest();
        tape.write();
        tape.turnOver();
        DUE.is("INPUT BYTES of the longest", tape.look(3), 4110);
        DUE.is("its last one", tape.byteAt(4109, true), tape.byteAt(4109, false));
        tape.undo(1024);
        tape.write();
        tape.turnOver();
        DUE.is("INPUT BYTES of the shortest", tape.look(3), 14);
        DUE.is("none behind it", tape.byteAt(14, true), -1);
    }

    private static void cutKeepsTheFirst() {
        DemoTape tape = new DemoTape();
        tape.give(0x0102030405L, 5);
        DUE.yes("cut(3) of five", tape.cut(3));
        dueInput("three stay", tape, 1, 2, 3);
        tape.give(9, 1);
        dueInput("a byte behind a cut", tape, 1, 2, 3, 9);
    }

    private static void cutUpToAll() {
        int[] bytes = {1, 2, 3, 4, 5, 6, 7, 8};
        for (int size = 0; size <= bytes.length; size++) {
            int[] all = Arrays.copyOf(bytes, size);
            DemoTape tape = Tapes.given(all);
            for (int n : new int[] {-1, size + 1, 8192, FAR[0], FAR[1]}) {
                DUE.no("cut(" + n + ") of " + size, tape.cut(n));
                dueInput("all stay", tape, all);
            }
            for (int n = size; n >= 0; n--) {
                DUE.yes("cut(" + n + ")", tape.cut(n));
                dueInput("the first " + n + " stay", tape, Arrays.copyOf(all, n));
            }
            DUE.no("cut(1) of none", tape.cut(1));
        }
    }

    private static void pokePlaces() {
        for (int size : new int[] {0, 1, 3}) {
            int[] all = Arrays.copyOf(new int[] {1, 2, 3}, size);
            DemoTape tape = Tapes.given(all);
            for (int k : new int[] {-1, size, size + 1, 8191, 8192, FAR[0], FAR[1]}) {
                DUE.no("poke(" + k + ", 9) of " + size, tape.poke(k, 9));
                dueInput("all stay", tape, all);
            }
            for (int k = 0; k < size; k++) {
                DUE.yes("poke(" + k + ", 9) of " + size, tape.poke(k, 9));
                all[k] = 9;
                dueInput("INPUT BYTE " + k, tape, all);
            }
        }
        DemoTape tape = Tapes.given(new int[] {1, 2, 3});
        tape.cut(2);
        DUE.no("poke behind a cut", tape.poke(2, 9));
    }

    private static void pokeLowestBits() {
        DemoTape tape = Tapes.given(new int[] {1, 2, 3});
        int[] values = {0, 127, 128, 255, 256, 257, 511, -1, -128, -129, -255, -256, FAR[0], FAR[1]};
        int[] bytes = {0, 127, 128, 255, 0, 1, 255, 255, 128, 127, 1, 0, 0, 255};
        for (int v = 0; v < values.length; v++) {
            DUE.yes("poke(1, " + values[v] + ")", tape.poke(1, values[v]));
            dueInput("poke(1, " + values[v] + ")", tape, 1, bytes[v], 3);
        }
    }
}
