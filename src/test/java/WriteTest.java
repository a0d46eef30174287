/** Promise 6, THE BYTES, GROUPS and CHECK, and the OUTPUT BYTES of promises 14 and 15. */
public final class WriteTest {
    private static final Due DUE = new Due();

    public static void main(String[] args) {
        emptyRecord();
        startInBytes();
        groupBytes();
        groupsOf63();
        longestRecord();
        highCheck();
        outputStaysUntilWritten();
        byteAtRefuses();
        DUE.finish();
    }

    private static void dueBytes(String what, DemoTape tape, int[] bytes) {
        DUE.is(what + ": write()", tape.write(), bytes.length);
        DUE.is(what + ": OUTPUT BYTES", tape.look(2), bytes.length);
        DUE.same(what, Tapes.seenBytes(tape, false), Tapes.textOf(false, bytes));
    }

    private static void emptyRecord() {
        dueBytes("an empty RECORD", new DemoTape(), new int[] {77, 68, 1, 0, 0, 0, 0, 0, 0, 0, 5, 120, 0, 147});
    }

    private static void startInBytes() {
        int[][] starts = {{0, 255, 0, 255}, {256, 32767, 63, 0}, {-1, -32768, 1, 1}, {-256, -257, 62, 128}};
        int[][] bytes = {{0, 0, 0, 255, 0, 255}, {1, 0, 127, 255, 63, 0}, {255, 255, 128, 0, 1, 1},
            {255, 0, 254, 255, 62, 128}};
        for (int k = 0; k < starts.length; k++) {
            DemoTape tape = new DemoTape();
            int[] s = starts[k];
            tape.start(s[0], s[1], s[2], s[3]);
            dueBytes("START " + k, tape, Tapes.checked(new int[] {77, 68, 1}, bytes[k], new int[] {0}));
        }
    }

    private static void groupBytes() {
        DemoTape tape = new DemoTape();
        tape.start(-2, 258, 63, 255);
        tape.record(-64, 0, 0, false, 1);
        tape.record(64, 0, 0, true, 2);
        tape.record(0, 1, 0, false, 3);
        tape.record(0, 0, -1, true, 4);
        tape.record(64, -64, 16, false, 5);
        tape.record(0, 64, -16, true, 6);
        tape.record(0, 0, 0, false, 7);
        dueBytes("GROUPS of all kinds", tape, Tapes.whole(1, 0, 66, 128, 131, 64, 65, 16, 196, 64, 64, 15,
                133, 128, 0, 32, 198, 64, 128, 0, 7, 64));
    }

    private static void groupsOf63() {
        int[] sizes = {62, 63, 64, 126, 127};
        int[][] groups = {{62, 65}, {63, 65}, {63, 65, 1, 65}, {63, 65, 63, 65}, {63, 65, 63, 65, 1, 65}};
        for (int k = 0; k < sizes.length; k++) {
            DemoTape tape = new DemoTape();
            tape.start(-2, 258, 63, 255);
            tape.record(1, 0, 0, false, sizes[k]);
            dueBytes(sizes[k] + " equal ones", tape, Tapes.whole(groups[k]));
        }
        DemoTape tape = new DemoTape();
        tape.start(-2, 258, 63, 255);
        tape.record(1, 0, 0, false, 30);
        tape.record(1, 0, 0, false, 40);
        tape.record(2, 0, 0, false, 1);
        tape.record(1, 0, 0, false, 1);
        dueBytes("equal ones that are recorded apart", tape, Tapes.whole(63, 65, 7, 65, 1, 66, 1, 65));
    }

    private static void longestRecord() {
        DemoTape tape = Tapes.longest();
        int[] bytes = Tapes.checked(new int[] {77, 68, 1, 0, 0, 0, 0, 0, 0},
                Tapes.repeated(512, 193, 128, 128, 32, 129, 0, 0, 0), new int[] {0});
        DUE.is("write() of the longest", tape.write(), 4110);
        int[] places = {0, 9, 10, 11, 12, 13, 2057, 4097, 4101, 4104, 4105, 4106, 4107, 4108, 4109};
        for (int k : places) {
            DUE.is("byteAt(" + k + ", false) of the longest", tape.byteAt(k, false), bytes[k]);
        }
        DUE.is("none behind it", tape.byteAt(4110, false), -1);
    }

    /** Sums beyond 65521, with a highest byte above 127. */
    private static void highCheck() {
        int met = 0;
        for (int n = 1; n <= 40; n++) {
            DemoTape tape = new DemoTape();
            tape.start(-1, -1, 63, 255);
            int[] groups = {};
            for (int k = 0; k < n; k++) {
                tape.record(64 - k % 2, 64, 16, true, 1);
                groups = Tapes.join(groups, new int[] {193, 128 - k % 2, 128, 32});
            }
            int[] bytes = Tapes.checked(new int[] {77, 68, 1, 255, 255, 255, 255, 63, 255}, groups, new int[] {0});
            dueBytes(n + " high ones", tape, bytes);
            met += bytes[bytes.length - 4] > 127 ? 1 : 0;
        }
        DUE.yes("CHECKS with a high first byte were met", met > 0);
    }

    private static void outputStaysUntilWritten() {
        DemoTape tape = new DemoTape();
        tape.record(1, 2, 3, true, 3);
        tape.write();
        String before = Tapes.seenBytes(tape, false);
        tape.start(1, 1, 1, 1);
        tape.record(5, 5, 5, true, 5);
        tape.give(7, 1);
        tape.poke(0, 9);
        tape.read();
        DUE.same("OUTPUT BYTES stay", Tapes.seenBytes(tape, false), before);
        tape.undo(8);
        DUE.is("a shorter write()", tape.write(), 14);
        DUE.is("none behind it", tape.byteAt(14, false), -1);
        DUE.is("INPUT BYTES stay", tape.look(3), 1);
        DUE.same("THE RECORD stays", Tapes.seenRecord(tape), " start 1 1 1 1");
    }

    private static void byteAtRefuses() {
        DemoTape tape = new DemoTape();
        tape.write();
        tape.give(5, 2);
        for (int k : new int[] {-1, 14, 8191, 8192, Integer.MIN_VALUE, Integer.MAX_VALUE}) {
            DUE.is("byteAt(" + k + ", false)", tape.byteAt(k, false), -1);
            DUE.is("byteAt(" + k + ", true)", tape.byteAt(k, true), -1);
        }
        DUE.is("byteAt(2, true) of two", tape.byteAt(2, true), -1);
        DUE.is("byteAt(1, true) of two", tape.byteAt(1, true), 5);
        DUE.is("byteAt(1, false)", tape.byteAt(1, false), 68);
    }
}
