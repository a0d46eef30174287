import java.util.ArrayList;
import java.util.List;

/**
 * "What answers false, NONE or a fault changes nothing but what is said": of two like objects one has a refused call,
 * and behind it both give the same answers to the same calls.
 */
public final class RefusedTest {
    private static final Due DUE = new Due();
    private static final int LEAST = Integer.MIN_VALUE;
    private static final int MOST = Integer.MAX_VALUE;

    private interface Maker {
        DemoTape make();
    }

    private static final Maker[] MAKERS = {DemoTape::new, RefusedTest::few, RefusedTest::many, RefusedTest::full};

    private record Refused(String name, long answer, Call call) {
    }

    public static void main(String[] args) {
        for (Maker maker : MAKERS) {
            DemoTape like = maker.make();
            List<Refused> all = refusedOf(like.look(0), like.look(2), like.look(3));
            for (Refused one : all) {
                dueAsIfNotMade(maker, List.of(one));
            }
            dueAsIfNotMade(maker, all);
        }
        faultsLeaveAllElse();
        DUE.finish();
    }

    /** Three INPUTS, bytes of both kinds, and a fault 7 that was read. */
    private static DemoTape few() {
        DemoTape tape = new DemoTape();
        tape.start(-5, 300, 63, 255);
        tape.record(1, 2, 3, true, 2);
        tape.record(4, 0, 0, false, 1);
        tape.write();
        tape.turnOver();
        tape.give(7, 1);
        tape.read();
        return tape;
    }

    /** More than half of what a RECORD can have, so that more can be asked for again than fit. */
    private static DemoTape many() {
        DemoTape tape = new DemoTape();
        tape.record(-64, 64, -16, false, 599);
        tape.record(1, 0, 0, true, 1);
        tape.write();
        tape.give(-1, 8);
        return tape;
    }

    private static DemoTape full() {
        DemoTape tape = Tapes.longest();
        tape.start(-32768, 32767, 0, 0);
        tape.write();
        tape.turnOver();
        tape.read();
        return tape;
    }

    private static void dueAsIfNotMade(Maker maker, List<Refused> calls) {
        for (int run = 0; run < Later.RUNS; run++) {
            DemoTape tape = maker.make();
            for (Refused one : calls) {
                DUE.is(one.name, one.call.on(tape), one.answer);
            }
            String what = calls.size() == 1 ? "behind " + calls.get(0).name : "behind all refused calls";
            DUE.same(what, Later.answers(tape, run, true), Later.answers(maker.make(), run, true));
        }
    }

    private static List<Refused> refusedOf(int inputs, int output, int input) {
        List<Refused> all = new ArrayList<>();
        refusedStarts(all);
        refusedRecords(all, inputs);
        refusedAgains(all, inputs);
        for (int n : new int[] {-1, inputs + 1, LEAST, MOST}) {
            all.add(new Refused("undo(" + n + ")", 0, tape -> tape.undo(n) ? 1 : 0));
        }
        for (int n : new int[] {0, 9, -1, LEAST, MOST}) {
            all.add(new Refused("give(5, " + n + ")", 0, tape -> tape.give(5, n) ? 1 : 0));
        }
        for (int n : new int[] {-1, input + 1, LEAST, MOST}) {
            all.add(new Refused("cut(" + n + ")", 0, tape -> tape.cut(n) ? 1 : 0));
        }
        for (int k : new int[] {-1, input, LEAST, MOST}) {
            all.add(new Refused("poke(" + k + ", 5)", 0, tape -> tape.poke(k, 5) ? 1 : 0));
        }
        refusedQuestions(all, inputs, output, input);
        return all;
    }

    private static void refusedStarts(List<Refused> all) {
        int[][] starts = {{-32769, 6, 7, 8}, {32768, 6, 7, 8}, {LEAST, 6, 7, 8}, {MOST, 6, 7, 8}, {5, -32769, 7, 8},
            {5, 32768, 7, 8}, {5, LEAST, 7, 8}, {5, MOST, 7, 8}, {5, 6, -1, 8}, {5, 6, 64, 8}, {5, 6, LEAST, 8},
            {5, 6, MOST, 8}, {5, 6, 7, -1}, {5, 6, 7, 256}, {5, 6, 7, LEAST}, {5, 6, 7, MOST}};
        for (int[] s : starts) {
            String name = "start(" + s[0] + ", " + s[1] + ", " + s[2] + ", " + s[3] + ")";
            all.add(new Refused(name, 0, tape -> tape.start(s[0], s[1], s[2], s[3]) ? 1 : 0));
        }
    }

    private static void refusedRecords(List<Refused> all, int inputs) {
        int[][] records = {{-65, 5, 6, 1}, {65, 5, 6, 1}, {LEAST, 5, 6, 1}, {MOST, 5, 6, 1}, {4, -65, 6, 1},
            {4, 65, 6, 1}, {4, LEAST, 6, 1}, {4, MOST, 6, 1}, {4, 5, -17, 1}, {4, 5, 17, 1}, {4, 5, LEAST, 1},
            {4, 5, MOST, 1}, {4, 5, 6, 0}, {4, 5, 6, -1}, {4, 5, 6, 1025 - inputs}, {4, 5, 6, 1025}, {4, 5, 6, LEAST},
            {4, 5, 6, MOST}};
        for (int[] r : records) {
            String name = "record(" + r[0] + ", " + r[1] + ", " + r[2] + ", true, " + r[3] + ")";
            all.add(new Refused(name, -1, tape -> tape.record(r[0], r[1], r[2], true, r[3])));
        }
    }

    private static void refusedAgains(List<Refused> all, int inputs) {
        int[][] agains = {{-1, 1}, {-1, 2}, {inputs, 1}, {0, 0}, {0, -1}, {0, inputs + 1}, {1, inputs}, {inputs - 1, 2},
            {0, 1025 - inputs}, {LEAST, 1}, {MOST, 1}, {0, LEAST}, {0, MOST}, {1, MOST}, {MOST, MOST}, {LEAST, MOST}};
        for (int[] a : agains) {
            all.add(new Refused("again(" + a[0] + ", " + a[1] + ")", -1, tape -> tape.again(a[0], a[1])));
        }
    }

    private static void refusedQuestions(List<Refused> all, int inputs, int output, int input) {
        for (int k : new int[] {-1, output, LEAST, MOST}) {
            all.add(new Refused("byteAt(" + k + ", false)", -1, tape -> tape.byteAt(k, false)));
        }
        for (int k : new int[] {-1, input, LEAST, MOST}) {
            all.add(new Refused("byteAt(" + k + ", true)", -1, tape -> tape.byteAt(k, true)));
        }
        for (int i : new int[] {-1, inputs, LEAST, MOST}) {
            all.add(new Refused("input(" + i + ", 0)", 100000, tape -> tape.input(i, 0)));
        }
        for (int what : new int[] {-1, 4, LEAST, MOST}) {
            all.add(new Refused("input(0, " + what + ")", 100000, tape -> tape.input(0, what)));
            all.add(new Refused("begin(" + what + ")", 100000, tape -> tape.begin(what)));
        }
        for (int which : new int[] {-1, 7, LEAST, MOST}) {
            all.add(new Refused("look(" + which + ")", -1, tape -> tape.look(which)));
        }
    }

    /** Each FAULT in each state: all later answers but the fault and its place are as if read() had not been called. */
    private static void faultsLeaveAllElse() {
        int[][] faulty = {{}, {1}, Tapes.checked(new int[] {77, 68, 1, 0, 0, 0, 0, 64, 0, 0}),
            Tapes.whole(1, 64, 1, 64), Tapes.whole(Tapes.repeated(17, 63, 64)),
            Tapes.join(Tapes.HEAD, new int[] {5, 5, 0, 1}), Tapes.join(Tapes.whole(1, 1), new int[] {1})};
        for (int k = 0; k < faulty.length; k++) {
            for (Maker maker : MAKERS) {
                for (int run = 0; run < Later.RUNS; run++) {
                    DemoTape tape = maker.make();
                    DemoTape like = maker.make();
                    Tapes.giveAll(tape, faulty[k]);
                    Tapes.giveAll(like, faulty[k]);
                    DUE.is("read()", tape.read(), k + 1);
                    DUE.same("behind fault " + (k + 1), Later.answers(tape, run, false),
                            Later.answers(like, run, false));
                }
            }
        }
    }
}
