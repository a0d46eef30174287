/** Promise 6, THE BYTES, GROUPS and CHECK, and the OUTPUT BYTES of promises 14 and 15. */
public final class WriteTest {
    private static final Due DUE = new Due();

    public static void main(String[] args) {
        emptyRecord();
        xAndYAsTwoBytes();
        angleAndSectorAsOneByte();
        groupBytes();
        groupsOf63();
        sideIsWrittenBesideNaught();
        mostBytes();
        fullRecordOfOneInput();
        checkAtItsModulus();
        highCheck();
        outputStaysUntilWritten();
        byteAtBothEnds();
        DUE.finish();
    }

    private static void dueBytes(String what, DemoTape tape, int[] bytes) {
        DUE.is(what + ": write()", tape.write(), bytes.length);
        DUE.is(what + ": OUTPUT BYTES", tape.look(2), bytes.length);
        DUE.same(what, Tapes.seenBytes(tape, false), Tapes.textOf(false, bytes));
    }

    private static void emptyRecord() {
        dueBytes("an empty RECORD", new DemoTape(), new int[] {77, 68, 1, 0, 0, 0, 0, 0, 0, 0, 5, 120, 0, 147});
    }

    /** Each of x and y alone, so that neither can stand in the other's bytes. */
    private static void xAndYAsTwoBytes() {
        for (int[] p : Tapes.PLACES) {
            DemoTape tape = new DemoTape();
            tape.start(p[0], 258, 0, 0);
            dueBytes("x of " + p[0], tape, Tapes.checked(new int[] {77, 68, 1, p[1], p[2], 1, 2, 0, 0, 0}));
            tape.start(258, p[0], 0, 0);
            dueBytes("y of " + p[0], tape, Tapes.checked(new int[] {77, 68, 1, 1, 2, p[1], p[2], 0, 0, 0}));
        }
    }

    private static void angleAndSectorAsOneByte() {
        for (int angle : new int[] {0, 1, 62, 63}) {
            for (int sector : new int[] {0, 1, 127, 128, 254, 255}) {
                DemoTape tape = new DemoTape();
                tape.start(0, 0, angle, sector);
                dueBytes("ANGLE and SECTOR", tape, Tapes.checked(new int[] {77, 68, 1, 0, 0, 0, 0, angle, sector, 0}));
            }
        }
    }

    private static void groupBytes() {
        DemoTape tape = new DemoTape();
        tape.start(-2, 258, 63, 255);
        tape.record(-64, 0, 0, false, 1);
        tape.record(64, 0, 0, true, 2);
        tape.record(0, 1, 0, false, 3);
        tape.record(0, 0, -1, true, 4);
        tape.record(64, -64, 16, false, 5);
        tape.record(0, 64, -16, true, 6);
        tape.record(0, 0, 0, false, 7);
        dueBytes("GROUPS of all kinds", tape, Tapes.whole(1, 0, 66, 128, 131, 64, 65, 16, 196, 64, 64, 15,
                133, 128, 0, 32, 198, 64, 128, 0, 7, 64));
    }

    private static void groupsOf63() {
        int[] sizes = {62, 63, 64, 126, 127};
        int[][] groups = {{62, 65}, {63, 65}, {63, 65, 1, 65}, {63, 65, 63, 65}, {63, 65, 63, 65, 1, 65}};
        for (int k = 0; k < sizes.length; k++) {
            DemoTape tape = new DemoTape();
            tape.start(-2, 258, 63, 255);
            tape.record(1, 0, 0, false, sizes[k]);
            dueBytes(sizes[k] + " equal ones", tape, Tapes.whole(groups[k]));
        }
        DemoTape tape = new DemoTape();
        tape.start(-2, 258, 63, 255);
        tape.record(1, 0, 0, false, 30);
        tape.record(1, 0, 0, false, 40);
        tape.record(2, 0, 0, false, 1);
        tape.record(1, 0, 0, false, 1);
        dueBytes("equal ones that are recorded apart", tape, Tapes.whole(63, 65, 7, 65, 1, 66, 1, 65));
    }

    /** An aside or a turn of 1 to either side is written; two of 0 are not. */
    private static void sideIsWrittenBesideNaught() {
        int[][] sides = {{-1, 0}, {1, 0}, {0, -1}, {0, 1}, {-1, 1}, {-64, 0}, {64, 0}, {0, -16}, {0, 16}};
        for (int[] side : sides) {
            DemoTape tape = new DemoTape();
            tape.start(-2, 258, 63, 255);
            Tapes.one(tape, 0, side[0], side[1], true);
            dueBytes("a side", tape, Tapes.whole(193, 64, side[0] + 64, side[1] + 16));
        }
        for (int ahead : new int[] {-64, 0, 64}) {
            DemoTape tape = new DemoTape();
            tape.start(-2, 258, 63, 255);
            Tapes.one(tape, ahead, 0, 0, true);
            dueBytes("no side", tape, Tapes.whole(65, ahead + 64));
        }
    }

    /** 1024 GROUPS of four bytes are the most bytes that there can be. */
    private static void mostBytes() {
        dueBytes("1024 GROUPS", Tapes.longest(), Tapes.checked(new int[] {77, 68, 1, 0, 0, 0, 0, 0, 0},
                Tapes.repeated(512, 193, 128, 128, 32, 129, 0, 0, 0), new int[] {0}));
    }

    private static void fullRecordOfOneInput() {
        DemoTape tape = new DemoTape();
        tape.start(-2, 258, 63, 255);
        tape.record(1, 0, 0, false, 1024);
        dueBytes("1024 equal ones", tape, Tapes.whole(Tapes.join(Tapes.repeated(16, 63, 65), new int[] {16, 65})));
    }

    /** The two sums of a CHECK one below 65521, at it, and one beyond it. */
    private static void checkAtItsModulus() {
        int[] lowest = {65520, 0, 1};
        for (int k = 0; k < lowest.length; k++) {
            DUE.is("a of a CHECK", checkPart(25 + k, 0, 0, 0, 136, 2), lowest[k]);
        }
        DUE.is("b of 65520", checkPart(134, 39, 9, 3, 7, 0), 65520);
        DUE.is("b of 65521", checkPart(178, 0, 2, 2, 7, 0), 0);
        DUE.is("b of 65522", checkPart(433, 0, 2, 2, 7, 0), 1);
    }

    /** Two bytes of the CHECK, from one of them on, of a RECORD with this START and so many INPUTS, each a GROUP. */
    private static int checkPart(int x, int y, int angle, int sector, int inputs, int from) {
        DemoTape tape = new DemoTape();
        tape.start(x, y, angle, sector);
        for (int k = 0; k < inputs; k++) {
            Tapes.one(tape, 64 - k % 2, 64, 16, true);
        }
        int at = tape.write() - 4 + from;
        return tape.byteAt(at, false) * 256 + tape.byteAt(at + 1, false);
    }

    /** Sums beyond 65521, with a highest byte above 127. */
    private static void highCheck() {
        int met = 0;
        for (int n = 1; n <= 40; n++) {
            DemoTape tape = new DemoTape();
            tape.start(-1, -1, 63, 255);
            int[] groups = {};
            for (int k = 0; k < n; k++) {
                tape.record(64 - k % 2, 64, 16, true, 1);
                groups = Tapes.join(groups, new int[] {193, 128 - k % 2, 128, 32});
            }
            int[] bytes = Tapes.checked(new int[] {77, 68, 1, 255, 255, 255, 255, 63, 255}, groups, new int[] {0});
            dueBytes(n + " high ones", tape, bytes);
            met += bytes[bytes.length - 4] > 127 ? 1 : 0;
        }
        DUE.yes("CHECKS with a high first byte were met", met > 0);
    }

    private static void outputStaysUntilWritten() {
        DemoTape tape = new DemoTape();
        tape.record(1, 2, 3, true, 3);
        tape.write();
        String before = Tapes.seenBytes(tape, false);
        tape.start(1, 1, 1, 1);
        tape.record(5, 5, 5, true, 5);
        tape.give(7, 1);
        tape.poke(0, 9);
        tape.read();
        DUE.same("OUTPUT BYTES stay", Tapes.seenBytes(tape, false), before);
        tape.undo(8);
        DUE.is("a shorter write()", tape.write(), 14);
        DUE.is("none behind it", tape.byteAt(14, false), -1);
        DUE.is("INPUT BYTES stay", tape.look(3), 1);
        DUE.same("THE RECORD stays", Tapes.seenRecord(tape), " start 1 1 1 1");
    }

    private static void byteAtBothEnds() {
        DemoTape none = new DemoTape();
        DemoTape few = new DemoTape();
        few.write();
        few.turnOver();
        DemoTape most = Tapes.longest();
        most.write();
        most.turnOver();
        for (DemoTape tape : new DemoTape[] {none, few, most}) {
            for (boolean into : new boolean[] {false, true}) {
                int size = tape.look(into ? 3 : 2);
                for (int k : new int[] {-1, size, size + 1, 8191, 8192, Integer.MIN_VALUE, Integer.MAX_VALUE}) {
                    DUE.is("byteAt(" + k + ", " + into + ") of " + size, tape.byteAt(k, into), -1);
                }
                DUE.is("the first of " + size, tape.byteAt(0, into), size == 0 ? -1 : 77);
                DUE.yes("the last of " + size, (tape.byteAt(size - 1, into) == -1) == (size == 0));
            }
        }
        few.give(5, 1);
        DUE.is("byteAt(14, true)", few.byteAt(14, true), 5);
        DUE.is("byteAt(14, false)", few.byteAt(14, false), -1);
    }
}
