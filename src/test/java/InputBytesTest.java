/** Promises 7 to 10, and the INPUT BYTES of promises 14 and 15. */
public final class InputBytesTest {
    private static final int[] FAR = {Integer.MIN_VALUE, Integer.MAX_VALUE};

    private static final Due DUE = new Due();

    public static void main(String[] args) {
        giveLowestBytes();
        giveRefuses();
        giveUpTo8192();
        turnOverCopies();
        turnOverShortens();
        cutKeepsTheFirst();
        pokeSetsOne();
        DUE.finish();
    }

    private static void dueInput(String what, DemoTape tape, int... bytes) {
        DUE.is(what + ": INPUT BYTES", tape.look(3), bytes.length);
        DUE.same(what, Tapes.seenBytes(tape, true), Tapes.textOf(true, bytes));
    }

    private static void giveLowestBytes() {
        long v = 0xF1E2D3C4B5A69788L;
        int[] all = {0xF1, 0xE2, 0xD3, 0xC4, 0xB5, 0xA6, 0x97, 0x88};
        int[] given = {};
        DemoTape tape = new DemoTape();
        for (int n = 1; n <= 8; n++) {
            DUE.yes("give of " + n, tape.give(v, n));
            int[] last = new int[n];
            System.arraycopy(all, 8 - n, last, 0, n);
            given = Tapes.join(given, last);
        }
        dueInput("give of 1 .. 8", tape, given);
        tape = new DemoTape();
        tape.give(-1, 2);
        tape.give(1, 3);
        dueInput("give of -1 and 1", tape, 255, 255, 0, 0, 1);
    }

    private static void giveRefuses() {
        DemoTape tape = new DemoTape();
        tape.give(5, 1);
        for (int n : new int[] {0, -1, 9, FAR[0], FAR[1]}) {
            DUE.no("give of " + n, tape.give(1, n));
        }
        dueInput("a give refused changes nothing", tape, 5);
    }

    /** No 512 calls reach this limit; the program keeps it all the same. */
    private static void giveUpTo8192() {
        DemoTape tape = new DemoTape();
        for (int k = 0; k < 1023; k++) {
            DUE.yes("give of eight", tape.give(k, 8));
        }
        DUE.yes("give of one", tape.give(7, 1));
        DUE.no("give of eight where seven fit", tape.give(-1, 8));
        DUE.is("INPUT BYTES", tape.look(3), 8185);
        DUE.is("none came", tape.byteAt(8185, true), -1);
        DUE.yes("give of seven where seven fit", tape.give(-1, 7));
        DUE.no("give of one where none fits", tape.give(1, 1));
        DUE.is("INPUT BYTES", tape.look(3), 8192);
        DUE.is("the last one", tape.byteAt(8191, true), 255);
        DUE.is("none behind it", tape.byteAt(8192, true), -1);
        DUE.yes("poke of the last one", tape.poke(8191, 3));
        DUE.no("poke behind it", tape.poke(8192, 3));
        DUE.is("the last one", tape.byteAt(8191, true), 3);
        DUE.no("cut beyond all", tape.cut(8193));
        DUE.yes("cut of nothing", tape.cut(8192));
        DUE.yes("cut of one", tape.cut(8191));
        DUE.yes("give of one where one fits", tape.give(4, 1));
        DUE.is("INPUT BYTES", tape.look(3), 8192);
    }

    private static void turnOverCopies() {
        DemoTape tape = new DemoTape();
        tape.record(1, 2, 3, true, 3);
        tape.write();
        String record = Tapes.seenRecord(tape);
        String output = Tapes.seenBytes(tape, false);
        tape.turnOver();
        DUE.same("INPUT BYTES are the OUTPUT BYTES", Tapes.seenBytes(tape, true), output.replace("out", "in"));
        tape.poke(0, 1);
        tape.give(5, 1);
        DUE.same("OUTPUT BYTES stay behind poke and give", Tapes.seenBytes(tape, false), output);
        tape.turnOver();
        String input = Tapes.seenBytes(tape, true);
        DUE.same("turnOver once more", input, output.replace("out", "in"));
        DUE.same("THE RECORD stays", Tapes.seenRecord(tape), record);
        tape.undo(3);
        tape.write();
        DUE.same("INPUT BYTES stay behind write", Tapes.seenBytes(tape, true), input);
    }

    private static void turnOverShortens() {
        DemoTape tape = new DemoTape();
        tape.give(1, 8);
        tape.turnOver();
        dueInput("turnOver without OUTPUT BYTES", tape);
        tape = Tapes.longest();
        tape.write();
        tape.turnOver();
        DUE.is("INPUT BYTES of the longest", tape.look(3), 4110);
        DUE.is("its last one", tape.byteAt(4109, true), tape.byteAt(4109, false));
        tape.undo(1024);
        tape.write();
        tape.turnOver();
        DUE.is("INPUT BYTES of the shortest", tape.look(3), 14);
        DUE.is("none behind it", tape.byteAt(14, true), -1);
    }

    private static void cutKeepsTheFirst() {
        DemoTape tape = new DemoTape();
        DUE.yes("cut(0) of none", tape.cut(0));
        DUE.no("cut(1) of none", tape.cut(1));
        tape.give(0x0102030405L, 5);
        for (int n : new int[] {-1, 6, 8192, FAR[0], FAR[1]}) {
            DUE.no("cut(" + n + ") of five", tape.cut(n));
        }
        DUE.yes("cut(5) of five", tape.cut(5));
        dueInput("all stay", tape, 1, 2, 3, 4, 5);
        DUE.yes("cut(3) of five", tape.cut(3));
        dueInput("three stay", tape, 1, 2, 3);
        DUE.no("cut(4) of three", tape.cut(4));
        tape.give(9, 1);
        dueInput("a byte behind a cut", tape, 1, 2, 3, 9);
        DUE.yes("cut(0)", tape.cut(0));
        dueInput("none stays", tape);
    }

    private static void pokeSetsOne() {
        DemoTape tape = new DemoTape();
        DUE.no("poke(0, 1) of none", tape.poke(0, 1));
        tape.give(0x010203, 3);
        for (int k : new int[] {-1, 3, 8191, 8192, FAR[0], FAR[1]}) {
            DUE.no("poke(" + k + ", 9) of three", tape.poke(k, 9));
        }
        dueInput("a poke refused changes nothing", tape, 1, 2, 3);
        int[] values = {0, 127, 128, 255, 256, 511, -1, -256, FAR[0], FAR[1]};
        int[] bytes = {0, 127, 128, 255, 0, 255, 255, 0, 0, 255};
        for (int v = 0; v < values.length; v++) {
            DUE.yes("poke(1, " + values[v] + ")", tape.poke(1, values[v]));
            dueInput("poke(1, " + values[v] + ")", tape, 1, bytes[v], 3);
        }
        DUE.yes("poke of the first", tape.poke(0, 8));
        DUE.yes("poke of the last", tape.poke(2, 7));
        dueInput("both edges", tape, 8, 255, 7);
    }
}
