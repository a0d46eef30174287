import java.util.Arrays;

/** Promise 11, READING and FAULTS, and of promise 15 the fault and its place. */
public final class ReadTest {
    private static final Due DUE = new Due();
    /** What is seen of the START of Tapes.HEAD. */
    private static final String HEAD = " start -2 258 63 255";

    public static void main(String[] args) {
        readsWhatIsWritten();
        readsNoGroups();
        readsEdgesOfStart();
        readsEdgesOfInput();
        readsEdgesOfCount();
        readsLongest();
        fault1AtEveryEnd();
        fault2AtEachPlace();
        fault3AngleAmountsTurn();
        fault3BothNaught();
        fault3GroupOfNone();
        fault4SplitGroup();
        fault5TooMany();
        fault6Check();
        fault7LeftBehind();
        firstFaultWins();
        laterReadForgetsTheFault();
        DUE.finish();
    }

    /** The fault and its place, and that an empty RECORD, one of a few INPUTS and a full one stay. */
    private static void dueFault(String what, int[] bytes, int fault, int place) {
        for (int count : new int[] {0, 2, 1024}) {
            DemoTape tape = new DemoTape();
            tape.start(1, 2, 3, 4);
            tape.record(1, 2, 3, true, count);
            tape.write();
            Tapes.giveAll(tape, bytes);
            String output = Tapes.seenBytes(tape, false);
            dueAnswers(what, tape, fault, place);
            DUE.same(what + ": INPUT BYTES", Tapes.seenBytes(tape, true), Tapes.textOf(true, bytes));
            DUE.same(what + ": OUTPUT BYTES", Tapes.seenBytes(tape, false), output);
            DUE.is(what + ": INPUTS", tape.look(0), count);
            tape.write();
            DUE.same(what + ": THE RECORD", Tapes.seenBytes(tape, false), output);
        }
    }

    private static void dueNoFault(String what, int[] bytes) {
        dueAnswers(what, Tapes.given(bytes), 0, -1);
    }

    private static void dueAnswers(String what, DemoTape tape, int fault, int place) {
        DUE.is(what + ": read()", tape.read(), fault);
        DUE.is(what + ": the fault", tape.look(4), fault);
        DUE.is(what + ": its place", tape.look(5), place);
    }

    private static void dueRead(String what, int[] bytes, String record) {
        DemoTape tape = Tapes.given(bytes);
        tape.start(9, 9, 9, 9);
        tape.record(3, 3, 3, true, 5);
        dueAnswers(what, tape, 0, -1);
        DUE.same(what, Tapes.seenRecord(tape), record);
        DUE.same(what + ": the bytes stay", Tapes.seenBytes(tape, true), Tapes.textOf(true, bytes));
        DUE.is(what + ": OUTPUT BYTES", tape.look(2), 0);
    }

    private static void readsWhatIsWritten() {
        DemoTape tape = new DemoTape();
        tape.start(-32768, 32767, 63, 255);
        tape.record(1, 0, 0, true, 4);
        tape.record(0, -64, 16, false, 3);
        tape.record(0, 0, -16, true, 1);
        String record = Tapes.seenRecord(tape);
        tape.write();
        tape.turnOver();
        tape.undo(5);
        tape.start(1, 1, 1, 1);
        DUE.is("read()", tape.read(), 0);
        DUE.same("THE RECORD is what was written", Tapes.seenRecord(tape), record);
        DUE.is("GROUPS", tape.look(1), 3);
        DUE.is("USES", tape.look(6), 5);
        tape.record(1, 1, 1, true, 1);
        DUE.is("read() once more", tape.read(), 0);
        DUE.same("THE RECORD is that again", Tapes.seenRecord(tape), record);
    }

    private static void readsNoGroups() {
        dueRead("no GROUPS", Tapes.whole(), HEAD);
        dueRead("no GROUPS, all 0", Tapes.checked(new int[] {77, 68, 1, 0, 0, 0, 0, 0, 0, 0}), " start 0 0 0 0");
    }

    private static void readsEdgesOfStart() {
        for (int[] p : Tapes.PLACES) {
            dueRead("x of " + p[0], Tapes.checked(new int[] {77, 68, 1, p[1], p[2], 1, 2, 0, 0, 0}),
                    " start " + p[0] + " 258 0 0");
            dueRead("y of " + p[0], Tapes.checked(new int[] {77, 68, 1, 1, 2, p[1], p[2], 0, 0, 0}),
                    " start 258 " + p[0] + " 0 0");
        }
        for (int angle : new int[] {0, 1, 62, 63}) {
            for (int sector : new int[] {0, 1, 127, 128, 254, 255}) {
                dueRead("ANGLE and SECTOR", Tapes.checked(new int[] {77, 68, 1, 0, 0, 0, 0, angle, sector, 0}),
                        " start 0 0 " + angle + " " + sector);
            }
        }
    }

    private static void readsEdgesOfInput() {
        for (int first : new int[] {1, 65}) {
            int uses = first / 64;
            for (int amount : new int[] {0, 1, 63, 64, 65, 127, 128}) {
                String tail = " " + uses + ")";
                dueRead("ahead " + amount, Tapes.whole(first, amount), HEAD + " (" + (amount - 64) + " 0 0" + tail);
                dueRead("ahead " + amount + " with a side", Tapes.whole(first + 128, amount, 65, 15),
                        HEAD + " (" + (amount - 64) + " 1 -1" + tail);
                dueRead("aside " + amount, Tapes.whole(first + 128, 64, amount, 15),
                        HEAD + " (0 " + (amount - 64) + " -1" + tail);
            }
            for (int turn : new int[] {0, 1, 15, 16, 17, 31, 32}) {
                dueRead("turn " + turn, Tapes.whole(first + 128, 64, 65, turn),
                        HEAD + " (0 1 " + (turn - 16) + " " + uses + ")");
            }
        }
    }

    private static void readsEdgesOfCount() {
        for (int n : new int[] {1, 2, 62, 63}) {
            dueRead("a GROUP of " + n, Tapes.whole(n, 65), HEAD + " (1 0 0 0)".repeat(n));
            dueRead("a GROUP of " + n + " that USES, with a side", Tapes.whole(n + 192, 65, 64, 15),
                    HEAD + " (1 0 -1 1)".repeat(n));
        }
    }

    private static void readsLongest() {
        DemoTape tape = Tapes.longest();
        tape.write();
        tape.turnOver();
        tape.undo(1024);
        DUE.is("read() of the longest", tape.read(), 0);
        DUE.is("INPUTS", tape.look(0), 1024);
        DUE.is("GROUPS", tape.look(1), 1024);
        DUE.is("USES", tape.look(6), 512);
        DUE.is("the last INPUT", tape.input(1023, 1), -64);
        DUE.is("the first INPUT", tape.input(0, 1), 64);
        tape.undo(1023);
        tape.poke(4105, 1);
        dueAnswers("a GROUP where the end of the longest is due", tape, 5, 4105);
        tape.turnOver();
        tape.cut(4109);
        dueAnswers("the longest without its last byte", tape, 1, 4109);
        tape.give(0, 1);
        dueAnswers("the longest with another last byte", tape, 6, 4109);
        tape.turnOver();
        tape.give(0, 1);
        dueAnswers("the longest with a byte behind it", tape, 7, 4110);
        DUE.is("THE RECORD stays at each of them", tape.look(0), 1);
        tape.cut(4110);
        dueAnswers("the longest once more", tape, 0, -1);
        DUE.is("INPUTS", tape.look(0), 1024);
    }

    private static void fault1AtEveryEnd() {
        int[] bytes = Tapes.whole(1, 64, 194, 64, 65, 16);
        for (int n = 0; n < bytes.length; n++) {
            dueFault("the first " + n, Arrays.copyOf(bytes, n), 1, n);
        }
        dueNoFault("all of them", bytes);
    }

    private static void fault2AtEachPlace() {
        int[] bytes = Tapes.whole();
        for (int k = 0; k < 3; k++) {
            for (int other = 0; other < 256; other++) {
                if (other != bytes[k]) {
                    int[] all = bytes.clone();
                    all[k] = other;
                    dueFault(other + " at " + k, all, 2, k);
                    dueFault(other + " at the end, " + k, Arrays.copyOf(all, k + 1), 2, k);
                }
            }
        }
    }

    private static void fault3AngleAmountsTurn() {
        for (int angle : new int[] {64, 128, 255}) {
            dueFault("ANGLE " + angle, Tapes.checked(new int[] {77, 68, 1, 0, 0, 0, 0, angle, 0, 0}), 3, 7);
            dueFault("ANGLE " + angle + " at the end", new int[] {77, 68, 1, 0, 0, 0, 0, angle}, 3, 7);
        }
        for (int amount : new int[] {129, 192, 255}) {
            dueFault("ahead " + amount, Tapes.whole(1, amount), 3, 10);
            dueFault("ahead " + amount + " with a side", Tapes.whole(129, amount, 64, 15), 3, 10);
            dueFault("ahead " + amount + " of a second", Tapes.whole(129, 1, 64, 15, 1, amount), 3, 14);
            dueFault("aside " + amount, Tapes.whole(129, 64, amount, 15), 3, 11);
            dueFault("aside " + amount + " at the end", Tapes.join(Tapes.HEAD, new int[] {129, 64, amount}), 3, 11);
        }
        for (int turn : new int[] {33, 64, 255}) {
            dueFault("turn " + turn, Tapes.whole(129, 64, 64, turn), 3, 12);
            dueFault("turn " + turn + " at the end", Tapes.join(Tapes.HEAD, new int[] {129, 64, 65, turn}), 3, 12);
        }
    }

    private static void fault3BothNaught() {
        dueFault("both 0", Tapes.whole(129, 64, 64, 16), 3, 12);
        dueFault("both 0 and USES", Tapes.whole(193, 64, 64, 16), 3, 12);
        dueFault("both 0 of a second", Tapes.whole(2, 64, 129, 1, 64, 16), 3, 14);
        dueFault("both 0 and the INPUT ahead", Tapes.whole(2, 64, 129, 64, 64, 16), 3, 14);
        dueFault("both 0 at the end", Tapes.join(Tapes.HEAD, new int[] {129, 64, 64, 16}), 3, 12);
        dueNoFault("aside alone is 0", Tapes.whole(129, 64, 64, 17));
        dueNoFault("turn alone is 0", Tapes.whole(129, 64, 63, 16));
    }

    private static void fault3GroupOfNone() {
        for (int first : new int[] {64, 128, 192}) {
            dueFault("a GROUP " + first, Tapes.whole(first, 64, 65, 17), 3, 9);
            dueFault("a GROUP " + first + " at the end", Tapes.join(Tapes.HEAD, new int[] {first}), 3, 9);
            dueFault("a GROUP " + first + " with a wrong ahead", Tapes.whole(first, 200), 3, 9);
            dueFault("a second GROUP " + first, Tapes.whole(1, 64, first, 65), 3, 11);
        }
    }

    private static void fault4SplitGroup() {
        dueFault("1 and 1", Tapes.whole(1, 64, 1, 64), 4, 11);
        dueFault("62 and 1", Tapes.whole(62, 64, 1, 64), 4, 11);
        dueFault("1 and 63", Tapes.whole(1, 64, 63, 64), 4, 11);
        dueNoFault("63 and 1", Tapes.whole(63, 64, 1, 64));
        dueNoFault("63 and 63", Tapes.whole(63, 64, 63, 64));
        dueFault("63, 1 and 1", Tapes.whole(63, 64, 1, 64, 1, 64), 4, 13);
        dueNoFault("63 and 1 that USE", Tapes.whole(127, 64, 65, 64));
        dueFault("with a side", Tapes.whole(129, 64, 65, 16, 130, 64, 65, 16), 4, 13);
        dueFault("with a side, at the end", Tapes.join(Tapes.HEAD, new int[] {129, 1, 2, 3, 129, 1, 2, 3}), 4, 13);
        dueFault("with a side that is not all there",
                Tapes.join(Tapes.HEAD, new int[] {129, 1, 2, 3, 129, 1, 2}), 1, 16);
        dueNoFault("another ahead", Tapes.whole(1, 64, 1, 65));
        dueNoFault("another aside", Tapes.whole(129, 64, 65, 16, 129, 64, 66, 16));
        dueNoFault("another turn", Tapes.whole(129, 64, 65, 16, 129, 64, 65, 17));
        dueNoFault("one that USES", Tapes.whole(1, 64, 65, 64));
        dueNoFault("one that has a side", Tapes.whole(1, 64, 129, 64, 64, 15));
        dueNoFault("not the one just ahead", Tapes.whole(1, 64, 1, 65, 1, 64));
    }

    private static void fault5TooMany() {
        int[] full = Tapes.repeated(16, 63, 64);
        dueNoFault("1024", Tapes.whole(Tapes.join(full, new int[] {16, 64})));
        dueFault("1025", Tapes.whole(Tapes.join(full, new int[] {17, 64})), 5, 41);
        dueFault("1008 + 63", Tapes.whole(Tapes.join(full, new int[] {63, 64})), 5, 41);
        dueFault("1024 + 1", Tapes.whole(Tapes.join(full, new int[] {16, 64, 1, 65})), 5, 43);
        dueFault("1024 + 1 of the same", Tapes.whole(Tapes.join(full, new int[] {16, 64, 1, 64})), 5, 43);
        dueFault("1024 + none", Tapes.whole(Tapes.join(full, new int[] {16, 64, 64, 64})), 3, 43);
        dueFault("seen with its first byte", Tapes.join(Tapes.HEAD, full, new int[] {17}), 5, 41);
        dueFault("ahead of a wrong amount", Tapes.whole(Tapes.join(full, new int[] {17, 200})), 5, 41);
    }

    private static void fault6Check() {
        int[] bytes = Tapes.whole(2, 64);
        for (int k = 0; k < 4; k++) {
            int place = bytes.length - 4 + k;
            for (int bit = 1; bit < 256; bit += bit) {
                int[] other = bytes.clone();
                other[place] ^= bit;
                dueFault("another CHECK", other, 6, place);
                dueFault("another CHECK that is not all there", Arrays.copyOf(other, place + 1), 6, place);
            }
        }
        int[] twice = bytes.clone();
        twice[bytes.length - 1] ^= 1;
        twice[bytes.length - 3] ^= 1;
        dueFault("two others", twice, 6, bytes.length - 3);
        int[] changed = bytes.clone();
        changed[10] = 65;
        DemoTape tape = Tapes.given(changed);
        DUE.is("another INPUT with the old CHECK", tape.read(), 6);
        dueFault("another CHECK and bytes behind", Tapes.join(twice, new int[] {1}), 6, bytes.length - 3);
    }

    private static void fault7LeftBehind() {
        int[] bytes = Tapes.whole(2, 64);
        dueFault("a byte behind", Tapes.join(bytes, new int[] {0}), 7, bytes.length);
        dueFault("nine bytes behind", Tapes.join(bytes, Tapes.repeated(9, 77)), 7, bytes.length);
    }

    private static void firstFaultWins() {
        dueFault("mark, ANGLE and amount", new int[] {77, 68, 2, 0, 0, 0, 0, 64, 0, 1, 200}, 2, 2);
        dueFault("ANGLE and amount", new int[] {77, 68, 1, 0, 0, 0, 0, 64, 0, 1, 200}, 3, 7);
        dueFault("split and amount behind", Tapes.whole(1, 64, 1, 64, 1, 200), 4, 11);
        dueFault("amount and split behind", Tapes.whole(1, 200, 1, 64, 1, 64), 3, 10);
        dueFault("aside and turn", Tapes.whole(129, 64, 200, 200), 3, 11);
    }

    private static void laterReadForgetsTheFault() {
        DemoTape tape = Tapes.given(Tapes.join(Tapes.whole(3, 64), new int[] {1}));
        tape.read();
        DUE.is("the fault", tape.look(4), 7);
        DUE.is("its place", tape.look(5), 16);
        tape.cut(16);
        tape.write();
        DUE.is("the fault stays until the next read()", tape.look(4), 7);
        DUE.is("its place stays", tape.look(5), 16);
        DUE.is("read()", tape.read(), 0);
        DUE.is("no fault", tape.look(4), 0);
        DUE.is("no place", tape.look(5), -1);
        tape.cut(0);
        DUE.is("no fault until the next read()", tape.look(4), 0);
        DUE.is("read() of none", tape.read(), 1);
        DUE.is("its place", tape.look(5), 0);
        DUE.is("the INPUTS that were read stay", tape.look(0), 3);
    }
}
