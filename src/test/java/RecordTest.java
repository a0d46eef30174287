/** Promises 1 to 5, 12 and 13, and of promise 15 what tells of THE RECORD. */
public final class RecordTest {
    private static final int[] FAR = {Integer.MIN_VALUE, Integer.MAX_VALUE};
    /** The least and the most of x, y, ANGLE and SECTOR. */
    private static final int[][] START_EDGES = {{-32768, 32767}, {-32768, 32767}, {0, 63}, {0, 255}};
    /** The least and the most of ahead, aside and turn. */
    private static final int[][] INPUT_EDGES = {{-64, 64}, {-64, 64}, {-16, 16}};

    private static final Due DUE = new Due();

    public static void main(String[] args) {
        newObject();
        startTakesItsEdges();
        startRefusesBeyondThem();
        recordTakesItsEdges();
        recordRefusesBeyondThem();
        recordStandsBehind();
        recordTimes();
        recordUpTo1024();
        undoTakesTheLast();
        undoUpToAll();
        againRepeats();
        againRefuses();
        againUpToTheLast();
        againUpTo1024();
        inputAtBothEnds();
        whatOfInput();
        whatOfBegin();
        groupsOfTheRecord();
        usesOfTheRecord();
        whichOfLook();
        DUE.finish();
    }

    private static void newObject() {
        DUE.same("a new object", Tapes.seen(new DemoTape()), "look 0 0 0 0 0 -1 0 start 0 0 0 0 out in");
        DUE.is("input(0, 0) of none", new DemoTape().input(0, 0), 100000);
        DUE.is("byteAt(0, false) of none", new DemoTape().byteAt(0, false), -1);
        DUE.is("byteAt(0, true) of none", new DemoTape().byteAt(0, true), -1);
    }

    private static int[] changed(int[] parts, int part, int value) {
        int[] all = parts.clone();
        all[part] = value;
        return all;
    }

    private static boolean startOf(DemoTape tape, int[] s) {
        return tape.start(s[0], s[1], s[2], s[3]);
    }

    private static String startText(int[] s) {
        return " start " + s[0] + " " + s[1] + " " + s[2] + " " + s[3];
    }

    private static void startTakesItsEdges() {
        for (int part = 0; part < START_EDGES.length; part++) {
            for (int value : START_EDGES[part]) {
                int[] s = changed(new int[] {5, 6, 7, 8}, part, value);
                DemoTape tape = new DemoTape();
                DUE.yes("start with " + value + " as part " + part, startOf(tape, s));
                DUE.same("START with " + value + " as part " + part, Tapes.seenRecord(tape), startText(s));
            }
        }
        DemoTape tape = new DemoTape();
        Tapes.one(tape, 1, 2, 3, true);
        DUE.yes("start behind an INPUT", tape.start(7, 8, 9, 10));
        DUE.same("start leaves the INPUTS", Tapes.seenRecord(tape), " start 7 8 9 10 (1 2 3 1)");
    }

    private static void startRefusesBeyondThem() {
        for (int part = 0; part < START_EDGES.length; part++) {
            int[] edges = START_EDGES[part];
            for (int value : new int[] {edges[0] - 1, edges[1] + 1, FAR[0], FAR[1]}) {
                DemoTape tape = new DemoTape();
                tape.start(1, 2, 3, 4);
                int[] s = changed(new int[] {5, 6, 7, 8}, part, value);
                DUE.no("start with " + value + " as part " + part, startOf(tape, s));
                DUE.same("START stays", Tapes.seen(tape), "look 0 0 0 0 0 -1 0 start 1 2 3 4 out in");
            }
        }
    }

    private static void recordTakesItsEdges() {
        for (int part = 0; part < INPUT_EDGES.length; part++) {
            for (int value : INPUT_EDGES[part]) {
                for (boolean uses : new boolean[] {false, true}) {
                    int[] p = changed(new int[] {4, 5, 6}, part, value);
                    DemoTape tape = new DemoTape();
                    DUE.is("record with " + value + " as part " + part, Tapes.one(tape, p[0], p[1], p[2], uses), 1);
                    String due = " (" + p[0] + " " + p[1] + " " + p[2] + " " + (uses ? 1 : 0) + ")";
                    DUE.same("INPUT with " + value + " as part " + part, Tapes.seenRecord(tape),
                            " start 0 0 0 0" + due);
                }
            }
        }
    }

    private static void recordRefusesBeyondThem() {
        for (int part = 0; part < INPUT_EDGES.length; part++) {
            int[] edges = INPUT_EDGES[part];
            for (int value : new int[] {edges[0] - 1, edges[1] + 1, FAR[0], FAR[1]}) {
                int[] p = changed(new int[] {4, 5, 6}, part, value);
                DemoTape tape = new DemoTape();
                tape.record(1, 2, 3, true, 1);
                DUE.is("record with " + value + " as part " + part, Tapes.one(tape, p[0], p[1], p[2], false), -1);
                DUE.same("THE RECORD stays", Tapes.seen(tape), "look 1 1 0 0 0 -1 1 start 0 0 0 0 (1 2 3 1) out in");
            }
        }
    }

    private static void recordStandsBehind() {
        DemoTape tape = new DemoTape();
        DUE.is("record", tape.record(64, -64, 16, true, 1), 1);
        DUE.is("record", tape.record(-64, 64, -16, false, 2), 3);
        DUE.is("record", tape.record(0, 0, 0, false, 1), 4);
        DUE.same("INPUTS", Tapes.seenRecord(tape),
                " start 0 0 0 0 (64 -64 16 1) (-64 64 -16 0) (-64 64 -16 0) (0 0 0 0)");
    }

    private static void recordTimes() {
        DemoTape tape = new DemoTape();
        for (int n : new int[] {0, -1, 1025, FAR[0], FAR[1]}) {
            DUE.is("record " + n + " times", tape.record(1, 0, 0, false, n), -1);
            DUE.is("INPUTS", tape.look(0), 0);
        }
        DUE.is("record once", tape.record(1, 0, 0, false, 1), 1);
        DUE.is("record 1024 times", new DemoTape().record(1, 0, 0, false, 1024), 1024);
    }

    /** How many there are, and so how many fit: one more than that is refused, and none of them comes. */
    private static void recordUpTo1024() {
        for (int count : new int[] {1, 63, 512, 1000, 1023}) {
            DemoTape tape = new DemoTape();
            int fit = 1024 - count;
            tape.record(1, 0, 0, false, count);
            DUE.is("record where " + fit + " fit", tape.record(2, 0, 0, true, fit + 1), -1);
            DUE.is("none of them is there", tape.look(0), count);
            DUE.is("none of them USES", tape.look(6), 0);
            DUE.is("record where " + fit + " fit", tape.record(2, 0, 0, true, fit), 1024);
            DUE.is("the last of those ahead", tape.input(count - 1, 0), 1);
            DUE.is("the first that came", tape.input(count, 0), 2);
            DUE.is("the last that came", tape.input(1023, 0), 2);
            DUE.is("none behind it", tape.input(1024, 0), 100000);
            DUE.is("USES", tape.look(6), fit);
            DUE.is("record where none fits", tape.record(3, 0, 0, false, 1), -1);
            DUE.is("the full RECORD stays", tape.input(1023, 0), 2);
            DUE.is("INPUTS", tape.look(0), 1024);
        }
    }

    private static void undoTakesTheLast() {
        DemoTape tape = new DemoTape();
        tape.start(1, 2, 3, 4);
        for (int ahead = 1; ahead <= 4; ahead++) {
            Tapes.one(tape, ahead, 0, 0, false);
        }
        DUE.yes("undo(2) of 4", tape.undo(2));
        DUE.same("the last two are gone", Tapes.seenRecord(tape), " start 1 2 3 4 (1 0 0 0) (2 0 0 0)");
        DUE.is("record behind undo", tape.record(9, 0, 0, true, 1), 3);
        DUE.same("it stands behind", Tapes.seenRecord(tape), " start 1 2 3 4 (1 0 0 0) (2 0 0 0) (9 0 0 1)");
        DUE.yes("undo of all", tape.undo(3));
        DUE.same("START stays", Tapes.seen(tape), "look 0 0 0 0 0 -1 0 start 1 2 3 4 out in");
    }

    private static void undoUpToAll() {
        for (int count : new int[] {0, 1, 64, 1023, 1024}) {
            DemoTape tape = new DemoTape();
            tape.record(1, 2, 3, true, count);
            for (int n : new int[] {-1, count + 1, 5000, FAR[0], FAR[1]}) {
                DUE.no("undo(" + n + ") of " + count, tape.undo(n));
                DUE.is("INPUTS", tape.look(0), count);
            }
            DUE.yes("undo(0) of " + count, tape.undo(0));
            DUE.is("INPUTS", tape.look(0), count);
            DUE.is("the last one", tape.input(count - 1, 2), count == 0 ? 100000 : 3);
            DUE.yes("undo of all " + count, tape.undo(count));
            DUE.is("INPUTS", tape.look(0), 0);
            DUE.is("GROUPS", tape.look(1), 0);
            DUE.is("USES", tape.look(6), 0);
            DUE.is("no first one", tape.input(0, 2), 100000);
            DUE.no("undo(1) of none", tape.undo(1));
            DUE.is("all fit again", tape.record(1, 0, 0, false, 1024), 1024);
        }
    }

    private static void againRepeats() {
        DemoTape tape = new DemoTape();
        for (int ahead = 1; ahead <= 4; ahead++) {
            Tapes.one(tape, ahead, 0, 0, ahead == 2);
        }
        DUE.is("again(1, 2)", tape.again(1, 2), 6);
        DUE.is("again of the last", tape.again(5, 1), 7);
        DUE.is("again of all", tape.again(0, 7), 14);
        StringBuilder ahead = new StringBuilder();
        for (int i = 0; i < 14; i++) {
            ahead.append(tape.input(i, 0));
        }
        DUE.same("INPUTS", ahead.toString(), "12342331234233");
        DUE.is("USES", tape.look(6), 4);
    }

    private static void againRefuses() {
        DemoTape tape = new DemoTape();
        DUE.is("again(0, 1) of none", tape.again(0, 1), -1);
        DUE.is("again(0, 0) of none", tape.again(0, 0), -1);
        DUE.is("again(-1, 1) of none", tape.again(-1, 1), -1);
        Tapes.one(tape, 1, 0, 0, false);
        Tapes.one(tape, 2, 0, 0, false);
        int[][] wrong = {{-1, 1}, {-1, 2}, {2, 1}, {3, 1}, {0, 3}, {1, 2}, {0, 0}, {1, 0}, {0, -1}, {2, 0}, {2, -1},
            {FAR[0], 1}, {FAR[1], 1}, {0, FAR[0]}, {0, FAR[1]}, {1, FAR[1]}, {FAR[1], FAR[1]}, {FAR[0], FAR[0]},
            {FAR[0], FAR[1]}, {FAR[1], FAR[0]}};
        for (int[] w : wrong) {
            DUE.is("again(" + w[0] + ", " + w[1] + ")", tape.again(w[0], w[1]), -1);
        }
        DUE.same("an again refused changes nothing", Tapes.seen(tape),
                "look 2 2 0 0 0 -1 0 start 0 0 0 0 (1 0 0 0) (2 0 0 0) out in");
    }

    /** From each of 5 INPUTS on: as many as there are from there, and one more than that. */
    private static void againUpToTheLast() {
        for (int i = 0; i < 5; i++) {
            DemoTape tape = new DemoTape();
            for (int ahead = 0; ahead < 5; ahead++) {
                Tapes.one(tape, ahead, 0, 0, false);
            }
            int most = 5 - i;
            DUE.is("again(" + i + ", 0)", tape.again(i, 0), -1);
            DUE.is("again(" + i + ", " + (most + 1) + ")", tape.again(i, most + 1), -1);
            DUE.is("none came", tape.look(0), 5);
            DUE.is("again(" + i + ", " + most + ")", tape.again(i, most), 5 + most);
            DUE.is("the first that came", tape.input(5, 0), i);
            DUE.is("the last that came", tape.input(4 + most, 0), 4);
            DUE.is("again(" + i + ", 1)", tape.again(i, 1), 6 + most);
            DUE.is("the one that came", tape.input(5 + most, 0), i);
        }
    }

    private static void againUpTo1024() {
        for (int count : new int[] {512, 600, 1000, 1023}) {
            DemoTape tape = new DemoTape();
            int fit = 1024 - count;
            tape.record(1, 0, 0, false, count - 1);
            Tapes.one(tape, 2, 0, 0, true);
            DUE.is("again where " + fit + " fit", tape.again(0, fit + 1), -1);
            DUE.is("again of the last where " + fit + " fit", tape.again(count - fit - 1, fit + 1), -1);
            DUE.is("INPUTS", tape.look(0), count);
            DUE.is("again where " + fit + " fit", tape.again(count - fit, fit), 1024);
            DUE.is("the last that came", tape.input(1023, 0), 2);
            DUE.is("again where none fits", tape.again(0, 1), -1);
            DUE.is("again of all where none fits", tape.again(0, 1024), -1);
            DUE.is("INPUTS", tape.look(0), 1024);
            DUE.is("USES", tape.look(6), 2);
        }
        DemoTape tape = new DemoTape();
        tape.record(1, 0, 0, false, 513);
        DUE.is("again of all 513", tape.again(0, 513), -1);
        DUE.is("again of 511", tape.again(0, 511), 1024);
    }

    private static void inputAtBothEnds() {
        for (int count : new int[] {0, 1, 2, 1023, 1024}) {
            DemoTape tape = new DemoTape();
            tape.record(1, 2, 3, true, 1024);
            tape.undo(1024 - count);
            for (int what = 0; what < 4; what++) {
                for (int i : new int[] {-1, count, count + 1, 1024, FAR[0], FAR[1]}) {
                    DUE.is("input(" + i + ", " + what + ") of " + count, tape.input(i, what), 100000);
                }
                int due = what == 3 ? 1 : what + 1;
                DUE.is("the first of " + count, tape.input(0, what), count == 0 ? 100000 : due);
                DUE.is("the last of " + count, tape.input(count - 1, what), count == 0 ? 100000 : due);
            }
        }
    }

    private static void whatOfInput() {
        DemoTape tape = new DemoTape();
        tape.record(-1, 2, -3, true, 1);
        tape.record(4, -5, 6, false, 1);
        int[][] due = {{-1, 2, -3, 1}, {4, -5, 6, 0}};
        for (int i = 0; i < 2; i++) {
            for (int what = 0; what < 4; what++) {
                DUE.is("input(" + i + ", " + what + ")", tape.input(i, what), due[i][what]);
            }
            for (int what : new int[] {-1, 4, 5, FAR[0], FAR[1]}) {
                DUE.is("input(" + i + ", " + what + ")", tape.input(i, what), 100000);
            }
        }
        DUE.is("neither INPUT nor what", tape.input(2, 4), 100000);
    }

    private static void whatOfBegin() {
        DemoTape tape = new DemoTape();
        tape.start(-1, 2, 3, 4);
        int[] due = {-1, 2, 3, 4};
        for (int what = 0; what < 4; what++) {
            DUE.is("begin(" + what + ")", tape.begin(what), due[what]);
        }
        for (int what : new int[] {-1, 4, 5, FAR[0], FAR[1]}) {
            DUE.is("begin(" + what + ")", tape.begin(what), 100000);
        }
    }

    private static void groupsOfTheRecord() {
        int[][] groupsDue = {{1, 1}, {62, 1}, {63, 1}, {64, 2}, {126, 2}, {127, 3}, {1008, 16}, {1009, 17}, {1024, 17}};
        for (int[] g : groupsDue) {
            DemoTape tape = new DemoTape();
            tape.record(1, 1, 1, true, g[0]);
            DUE.is("GROUPS of " + g[0], tape.look(1), g[1]);
        }
        DemoTape tape = new DemoTape();
        int[][] neighbours = {{1, 0, 0, 0}, {2, 0, 0, 0}, {2, 1, 0, 0}, {2, 1, 1, 0}, {2, 1, 1, 1}, {2, 1, 1, 1}};
        int[] due = {1, 2, 3, 4, 5, 5};
        for (int k = 0; k < due.length; k++) {
            int[] p = neighbours[k];
            Tapes.one(tape, p[0], p[1], p[2], p[3] == 1);
            DUE.is("GROUPS, each of whose parts tells it apart", tape.look(1), due[k]);
        }
        tape.undo(2);
        DUE.is("GROUPS behind undo", tape.look(1), 4);
        DUE.is("GROUPS where no neighbours are equal", Tapes.longest().look(1), 1024);
    }

    private static void usesOfTheRecord() {
        DemoTape tape = new DemoTape();
        tape.record(1, 0, 0, true, 70);
        tape.record(1, 0, 0, false, 5);
        DUE.is("USES", tape.look(6), 70);
        tape.again(69, 2);
        DUE.is("USES", tape.look(6), 71);
        tape.undo(8);
        DUE.is("USES", tape.look(6), 69);
    }

    private static void whichOfLook() {
        DemoTape tape = new DemoTape();
        tape.record(1, 0, 0, true, 64);
        tape.record(1, 0, 0, false, 1);
        tape.write();
        tape.give(1, 7);
        tape.read();
        int[] due = {65, 3, 20, 7, 2, 0, 64};
        for (int which = 0; which <= 6; which++) {
            DUE.is("look(" + which + ")", tape.look(which), due[which]);
        }
        for (int which : new int[] {-1, 7, 8, 100, FAR[0], FAR[1]}) {
            DUE.is("look(" + which + ")", tape.look(which), -1);
        }
    }
}
