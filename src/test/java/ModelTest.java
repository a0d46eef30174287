import java.util.Random;

/** Runs of 512 calls, chosen by a fixed seed, on the program and on the model: every answer is the same. */
public final class ModelTest {
    private static final int RUNS = 600;
    private static final int CALLS = 512;
    private static final int[] ODD = {Integer.MIN_VALUE, -1025, -65, -17, -2, -1, 0, 1, 2, 15, 16, 17, 62, 63, 64, 65,
        128, 255, 256, 1023, 1024, 1025, 8192, 32767, 32768, -32768, -32769, Integer.MAX_VALUE};

    private final Due due;
    private final Random random;
    private final DemoTape tape = new DemoTape();
    private final Model model = new Model();
    private final int[] faultsMet;
    private int calls = 0;

    private ModelTest(Due due, Random random, int[] faultsMet) {
        this.due = due;
        this.random = random;
        this.faultsMet = faultsMet;
    }

    public static void main(String[] args) {
        Due due = new Due();
        int[] faultsMet = new int[8];
        for (int run = 0; run < RUNS; run++) {
            new ModelTest(due, new Random(run), faultsMet).go(run);
        }
        for (int fault = 0; fault < faultsMet.length; fault++) {
            due.yes("runs meet fault " + fault, faultsMet[fault] > 20);
        }
        due.finish();
    }

    private void go(int run) {
        while (calls < CALLS - 120) {
            step("run " + run + ", call " + calls);
        }
        while (calls < CALLS) {
            lookAround("run " + run + ", call " + calls);
        }
    }

    private void is(String what, long got, long want) {
        calls++;
        due.is(what, got, want);
    }

    private void is(String what, boolean got, boolean want) {
        is(what, got ? 1 : 0, want ? 1 : 0);
    }

    private int odd() {
        return ODD[random.nextInt(ODD.length)];
    }

    private int mostly(int least, int most) {
        return random.nextInt(30) == 0 ? odd() : least + random.nextInt(most - least + 1);
    }

    private void step(String at) {
        switch (random.nextInt(14)) {
            case 0:
                int x = mostly(-32768, 32767);
                int y = mostly(-32768, 32767);
                int angle = mostly(0, 63);
                int sector = mostly(0, 255);
                is(at + " start", tape.start(x, y, angle, sector), model.start(x, y, angle, sector));
                break;
            case 1:
            case 2:
            case 3:
                recordOne(at);
                break;
            case 4:
                int gone = mostly(0, Math.min(model.look(0), 90));
                is(at + " undo", tape.undo(gone), model.undo(gone));
                break;
            case 5:
                int i = mostly(0, model.look(0));
                int n = mostly(1, Math.max(1, model.look(0) - i));
                is(at + " again", tape.again(i, n), model.again(i, n));
                break;
            case 6:
            case 7:
                is(at + " write", tape.write(), model.write());
                tape.turnOver();
                model.turnOver();
                calls++;
                readBoth(at);
                break;
            case 8:
            case 9:
                spoil(at);
                break;
            case 10:
                giveGroups(at);
                break;
            default:
                lookAround(at);
        }
    }

    private void recordOne(String at) {
        int ahead = random.nextBoolean() ? random.nextInt(2) : mostly(-64, 64);
        int aside = random.nextBoolean() ? 0 : mostly(-64, 64);
        int turn = random.nextBoolean() ? 0 : mostly(-16, 16);
        boolean uses = random.nextBoolean();
        int n = random.nextBoolean() ? mostly(1, 3) : mostly(1, 70);
        is(at + " record", tape.record(ahead, aside, turn, uses, n), model.record(ahead, aside, turn, uses, n));
    }

    private void readBoth(String at) {
        is(at + " read", tape.read(), model.read());
        is(at + " look(4)", tape.look(4), model.look(4));
        is(at + " look(5)", tape.look(5), model.look(5));
        faultsMet[model.look(4)]++;
    }

    private void spoil(String at) {
        int size = model.look(3);
        int k = mostly(0, random.nextBoolean() ? size : Math.min(size, 16));
        int b = random.nextBoolean() ? random.nextInt(256) : odd();
        switch (random.nextInt(3)) {
            case 0:
                is(at + " cut", tape.cut(k), model.cut(k));
                break;
            case 1:
                long v = random.nextLong();
                int n = mostly(1, 8);
                is(at + " give", tape.give(v, n), model.give(v, n));
                break;
            default:
                is(at + " poke", tape.poke(k, b), model.poke(k, b));
        }
        readBoth(at);
    }

    /** A tape with a right CHECK and GROUPS that are mostly right, so that READING goes far. */
    private void giveGroups(String at) {
        int count = random.nextInt(28);
        boolean big = random.nextInt(3) == 0;
        int[] groups = {};
        for (int k = 0; k < count; k++) {
            groups = Tapes.join(groups, group(big));
        }
        int[] bytes = Tapes.whole(groups);
        is(at + " cut", tape.cut(0), model.cut(0));
        for (int k = 0; k < bytes.length; k += 8) {
            int n = Math.min(8, bytes.length - k);
            long v = Tapes.packed(bytes, k, n);
            is(at + " give", tape.give(v, n), model.give(v, n));
        }
        readBoth(at);
    }

    private int[] group(boolean big) {
        int n = big ? 63 : seldom() ? 0 : 1 + random.nextInt(63);
        int first = n + 64 * random.nextInt(2);
        int ahead = seldom() ? 129 : random.nextInt(129);
        if (random.nextInt(4) != 0) {
            return new int[] {first, random.nextInt(4) == 0 ? 64 : ahead};
        }
        int turn = seldom() ? 33 : 15 + random.nextInt(3);
        return new int[] {first + 128, ahead, 63 + random.nextInt(3), turn};
    }

    private boolean seldom() {
        return random.nextInt(50) == 0;
    }

    private void lookAround(String at) {
        int what = mostly(0, 4);
        switch (random.nextInt(5)) {
            case 0:
                int i = mostly(0, model.look(0));
                is(at + " input(" + i + ", " + what + ")", tape.input(i, what), model.input(i, what));
                break;
            case 1:
                is(at + " begin(" + what + ")", tape.begin(what), model.begin(what));
                break;
            case 2:
                int which = mostly(-1, 7);
                is(at + " look(" + which + ")", tape.look(which), model.look(which));
                break;
            default:
                boolean into = random.nextBoolean();
                int k = mostly(0, model.look(into ? 3 : 2));
                is(at + " byteAt(" + k + ", " + into + ")", tape.byteAt(k, into), model.byteAt(k, into));
        }
    }
}
