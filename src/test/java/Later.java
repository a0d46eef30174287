/** A fixed run of calls with all its answers, by which two objects can be told apart. */
final class Later {
    private static final Call[] CALLS = {
        tape -> tape.read(),
        tape -> tape.start(11, -12, 13, 14) ? 1 : 0,
        tape -> tape.undo(1) ? 1 : 0,
        tape -> tape.record(9, 8, 7, true, 1),
        tape -> tape.again(0, 1),
        tape -> tape.give(0x4D44L, 2) ? 1 : 0,
        tape -> tape.poke(0, 78) ? 1 : 0,
        tape -> tape.write(),
        tape -> tape.cut(1) ? 1 : 0,
        tape -> turnedOver(tape),
    };

    /** How many runs there are: each call is the first one of one run. */
    static final int RUNS = CALLS.length;

    private Later() {
    }

    private static long turnedOver(DemoTape tape) {
        tape.turnOver();
        return 0;
    }

    /** With the fault and its place only where the run itself has read, if knowsFault is false. */
    static String answers(DemoTape tape, int run, boolean knowsFault) {
        StringBuilder text = new StringBuilder(around(tape, knowsFault));
        boolean knows = knowsFault;
        for (int k = 0; k < RUNS; k++) {
            int call = (run + k) % RUNS;
            knows |= call == 0;
            text.append(" | ").append(CALLS[call].on(tape)).append(" : ").append(around(tape, knows));
        }
        return text.toString();
    }

    /** Counts, START, and what stands at both ends of the INPUTS and of the bytes, by 32 calls. */
    private static String around(DemoTape tape, boolean knowsFault) {
        StringBuilder text = new StringBuilder("look");
        for (int which = 0; which <= 6; which++) {
            boolean ofFault = which == 4 || which == 5;
            text.append(' ').append(ofFault && !knowsFault ? "?" : tape.look(which));
        }
        text.append(" begin");
        for (int what = 0; what < 4; what++) {
            text.append(' ').append(tape.begin(what));
        }
        int count = tape.look(0);
        for (int i : new int[] {0, count - 1, count}) {
            text.append(" input");
            for (int what = 0; what < 4; what++) {
                text.append(' ').append(tape.input(i, what));
            }
        }
        return text + ends(tape, false) + ends(tape, true);
    }

    private static String ends(DemoTape tape, boolean into) {
        int size = tape.look(into ? 3 : 2);
        StringBuilder text = new StringBuilder(into ? " in" : " out");
        for (int k : new int[] {0, size - 1, size}) {
            text.append(' ').append(tape.byteAt(k, into));
        }
        return text.toString();
    }
}
