/** Promises 1 to 5, 12 and 13, and of promise 15 what tells of THE RECORD. */
public final class RecordTest {
    private static final int[] FAR = {Integer.MIN_VALUE, Integer.MAX_VALUE};

    private static final Due DUE = new Due();

    public static void main(String[] args) {
        newObject();
        startEdges();
        startRefuses();
        recordEdges();
        recordRefuses();
        recordUpTo1024();
        undoTakesTheLast();
        againRepeats();
        againRefuses();
        againUpTo1024();
        inputAndBeginRefuse();
        groupsOfTheRecord();
        usesOfTheRecord();
        lookRefuses();
        DUE.finish();
    }

    private static void newObject() {
        DUE.same("a new object", Tapes.seen(new DemoTape()), "look 0 0 0 0 0 -1 0 start 0 0 0 0 out in");
        DUE.is("input(0, 0) of none", new DemoTape().input(0, 0), 100000);
        DUE.is("byteAt(0, false) of none", new DemoTape().byteAt(0, false), -1);
        DUE.is("byteAt(0, true) of none", new DemoTape().byteAt(0, true), -1);
    }

    private static void startEdges() {
        int[][] starts = {{-32768, 32767, 0, 255}, {32767, -32768, 63, 0}, {-1, 1, 62, 254}, {0, 0, 0, 0}};
        DemoTape tape = new DemoTape();
        for (int[] s : starts) {
            DUE.yes("start at its edges", tape.start(s[0], s[1], s[2], s[3]));
            for (int what = 0; what < 4; what++) {
                DUE.is("begin(" + what + ")", tape.begin(what), s[what]);
            }
        }
        Tapes.one(tape, 1, 2, 3, true);
        DUE.yes("start behind an INPUT", tape.start(7, 8, 9, 10));
        DUE.same("start leaves the INPUTS", Tapes.seenRecord(tape), " start 7 8 9 10 (1 2 3 1)");
    }

    private static void startRefuses() {
        int[][] beyond = {{-32769, 32768}, {-32769, 32768}, {-1, 64}, {-1, 256}};
        DemoTape tape = new DemoTape();
        tape.start(1, 2, 3, 4);
        for (int part = 0; part < 4; part++) {
            for (int value : new int[] {beyond[part][0], beyond[part][1], FAR[0], FAR[1]}) {
                int[] s = {5, 6, 7, 8};
                s[part] = value;
                DUE.no("start with " + value + " as part " + part, tape.start(s[0], s[1], s[2], s[3]));
            }
        }
        DUE.same("a start refused changes nothing", Tapes.seen(tape), "look 0 0 0 0 0 -1 0 start 1 2 3 4 out in");
    }

    private static void recordEdges() {
        DemoTape tape = new DemoTape();
        DUE.is("record", tape.record(64, -64, 16, true, 1), 1);
        DUE.is("record", tape.record(-64, 64, -16, false, 2), 3);
        DUE.is("record", tape.record(0, 0, 0, false, 1), 4);
        DUE.is("record", tape.record(0, 1, 0, true, 1), 5);
        DUE.same("INPUTS", Tapes.seenRecord(tape),
                " start 0 0 0 0 (64 -64 16 1) (-64 64 -16 0) (-64 64 -16 0) (0 0 0 0) (0 1 0 1)");
        DUE.is("INPUTS", tape.look(0), 5);
    }

    private static void recordRefuses() {
        int[][] beyond = {{-65, 65}, {-65, 65}, {-17, 17}, {0, 1025}};
        DemoTape tape = new DemoTape();
        tape.record(1, 2, 3, true, 1);
        for (int part = 0; part < 4; part++) {
            for (int value : new int[] {beyond[part][0], beyond[part][1], FAR[0], FAR[1]}) {
                int[] p = {4, 5, 6, 1};
                p[part] = value;
                DUE.is("record with " + value + " as part " + part, tape.record(p[0], p[1], p[2], false, p[3]), -1);
            }
        }
        DUE.is("record -1 times", tape.record(0, 0, 0, false, -1), -1);
        DUE.same("a record refused changes nothing", Tapes.seen(tape),
                "look 1 1 0 0 0 -1 1 start 0 0 0 0 (1 2 3 1) out in");
    }

    private static void recordUpTo1024() {
        DemoTape tape = new DemoTape();
        DUE.is("record 1024 times", tape.record(1, 0, 0, false, 1024), 1024);
        DUE.is("record of one more", tape.record(1, 0, 0, false, 1), -1);
        DUE.is("INPUTS", tape.look(0), 1024);
        DUE.is("the last INPUT", tape.input(1023, 0), 1);
        DUE.is("none behind it", tape.input(1024, 0), 100000);

        tape = new DemoTape();
        tape.record(1, 0, 0, false, 1000);
        DUE.is("record of 25 where 24 fit", tape.record(2, 0, 0, false, 25), -1);
        DUE.is("none of them is there", tape.look(0), 1000);
        DUE.is("record of 24 where 24 fit", tape.record(2, 0, 0, false, 24), 1024);
        DUE.is("the last INPUT", tape.input(1023, 0), 2);
        DUE.is("INPUT 999", tape.input(999, 0), 1);
    }

    private static void undoTakesTheLast() {
        DemoTape tape = new DemoTape();
        DUE.yes("undo(0) of none", tape.undo(0));
        DUE.no("undo(1) of none", tape.undo(1));
        tape.start(1, 2, 3, 4);
        for (int ahead = 1; ahead <= 4; ahead++) {
            Tapes.one(tape, ahead, 0, 0, false);
        }
        DUE.no("undo(5) of 4", tape.undo(5));
        DUE.no("undo(-1)", tape.undo(-1));
        DUE.no("undo(least)", tape.undo(FAR[0]));
        DUE.no("undo(most)", tape.undo(FAR[1]));
        DUE.yes("undo(0)", tape.undo(0));
        DUE.is("INPUTS", tape.look(0), 4);
        DUE.yes("undo(2) of 4", tape.undo(2));
        DUE.same("the last two are gone", Tapes.seenRecord(tape), " start 1 2 3 4 (1 0 0 0) (2 0 0 0)");
        DUE.is("record behind undo", tape.record(9, 0, 0, true, 1), 3);
        DUE.same("it stands behind", Tapes.seenRecord(tape), " start 1 2 3 4 (1 0 0 0) (2 0 0 0) (9 0 0 1)");
        DUE.yes("undo of all", tape.undo(3));
        DUE.same("START stays", Tapes.seen(tape), "look 0 0 0 0 0 -1 0 start 1 2 3 4 out in");
    }

    private static void againRepeats() {
        DemoTape tape = new DemoTape();
        for (int ahead = 1; ahead <= 4; ahead++) {
            Tapes.one(tape, ahead, 0, 0, ahead == 2);
        }
        DUE.is("again(1, 2)", tape.again(1, 2), 6);
        DUE.is("again of the last", tape.again(5, 1), 7);
        DUE.is("again of all", tape.again(0, 7), 14);
        StringBuilder ahead = new StringBuilder();
        for (int i = 0; i < 14; i++) {
            ahead.append(tape.input(i, 0));
        }
        DUE.same("INPUTS", ahead.toString(), "12342331234233");
        DUE.is("USES", tape.look(6), 4);
    }

    private static void againRefuses() {
        DemoTape tape = new DemoTape();
        DUE.is("again(0, 1) of none", tape.again(0, 1), -1);
        DUE.is("again(0, 0) of none", tape.again(0, 0), -1);
        DUE.is("again(-1, 1) of none", tape.again(-1, 1), -1);
        Tapes.one(tape, 1, 0, 0, false);
        Tapes.one(tape, 2, 0, 0, false);
        int[][] wrong = {{-1, 1}, {-1, 2}, {2, 1}, {3, 1}, {0, 3}, {1, 2}, {0, 0}, {1, 0}, {0, -1}, {2, 0}, {2, -1},
            {FAR[0], 1}, {FAR[1], 1}, {0, FAR[0]}, {0, FAR[1]}, {1, FAR[1]}, {FAR[1], FAR[1]}, {FAR[0], FAR[0]},
            {FAR[0], FAR[1]}, {FAR[1], FAR[0]}};
        for (int[] w : wrong) {
            DUE.is("again(" + w[0] + ", " + w[1] + ")", tape.again(w[0], w[1]), -1);
        }
        DUE.same("an again refused changes nothing", Tapes.seen(tape),
                "look 2 2 0 0 0 -1 0 start 0 0 0 0 (1 0 0 0) (2 0 0 0) out in");
    }

    private static void againUpTo1024() {
        DemoTape tape = new DemoTape();
        tape.record(1, 0, 0, false, 600);
        DUE.is("again(0, 425) where 424 fit", tape.again(0, 425), -1);
        DUE.is("INPUTS", tape.look(0), 600);
        DUE.is("again(0, 424)", tape.again(0, 424), 1024);
        DUE.is("again of one more", tape.again(0, 1), -1);
        DUE.is("INPUTS", tape.look(0), 1024);
    }

    private static void inputAndBeginRefuse() {
        DemoTape tape = new DemoTape();
        tape.start(1, 2, 3, 4);
        tape.record(1, 2, 3, true, 2);
        tape.undo(1);
        for (int i : new int[] {-1, 1, 2, 1023, 1024, FAR[0], FAR[1]}) {
            for (int what = 0; what < 4; what++) {
                DUE.is("input(" + i + ", " + what + ")", tape.input(i, what), 100000);
            }
        }
        for (int what : new int[] {-1, 4, 5, FAR[0], FAR[1]}) {
            DUE.is("input(0, " + what + ")", tape.input(0, what), 100000);
            DUE.is("begin(" + what + ")", tape.begin(what), 100000);
        }
    }

    private static void groupsOfTheRecord() {
        int[][] groupsDue = {{1, 1}, {62, 1}, {63, 1}, {64, 2}, {126, 2}, {127, 3}, {1008, 16}, {1009, 17}, {1024, 17}};
        for (int[] g : groupsDue) {
            DemoTape tape = new DemoTape();
            tape.record(1, 1, 1, true, g[0]);
            DUE.is("GROUPS of " + g[0], tape.look(1), g[1]);
        }
        DemoTape tape = new DemoTape();
        int[][] neighbours = {{1, 0, 0, 0}, {2, 0, 0, 0}, {2, 1, 0, 0}, {2, 1, 1, 0}, {2, 1, 1, 1}, {2, 1, 1, 1}};
        int[] due = {1, 2, 3, 4, 5, 5};
        for (int k = 0; k < due.length; k++) {
            int[] p = neighbours[k];
            Tapes.one(tape, p[0], p[1], p[2], p[3] == 1);
            DUE.is("GROUPS, each of whose parts tells it apart", tape.look(1), due[k]);
        }
        tape.undo(2);
        DUE.is("GROUPS behind undo", tape.look(1), 4);
        DUE.is("GROUPS where no neighbours are equal", Tapes.longest().look(1), 1024);
    }

    private static void usesOfTheRecord() {
        DemoTape tape = new DemoTape();
        tape.record(1, 0, 0, true, 70);
        tape.record(1, 0, 0, false, 5);
        DUE.is("USES", tape.look(6), 70);
        tape.again(69, 2);
        DUE.is("USES", tape.look(6), 71);
        tape.undo(8);
        DUE.is("USES", tape.look(6), 69);
    }

    private static void lookRefuses() {
        DemoTape tape = new DemoTape();
        for (int which : new int[] {-1, 7, 8, 100, FAR[0], FAR[1]}) {
            DUE.is("look(" + which + ")", tape.look(which), -1);
        }
    }
}
