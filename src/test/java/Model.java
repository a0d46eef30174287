import java.util.ArrayList;
import java.util.List;

/** The document once more, in the plainest form, to hold the program against. */
final class Model {
    private static final class Fault extends Exception {
        private static final long serialVersionUID = 1L;
        final int number;
        final int place;

        Fault(int number, int place) {
            this.number = number;
            this.place = place;
        }
    }

    private List<List<Integer>> inputs = new ArrayList<>();
    private int[] start = {0, 0, 0, 0};
    private List<Integer> output = new ArrayList<>();
    private List<Integer> into = new ArrayList<>();
    private int fault = 0;
    private int place = -1;

    boolean start(int x, int y, int angle, int sector) {
        if (x != (short) x || y != (short) y || (angle & ~63) != 0 || (sector & ~255) != 0) {
            return false;
        }
        start = new int[] {x, y, angle, sector};
        return true;
    }

    int record(int ahead, int aside, int turn, boolean uses, int n) {
        boolean fits = Math.abs((long) ahead) <= 64 && Math.abs((long) aside) <= 64 && Math.abs((long) turn) <= 16;
        if (!fits || n < 1 || (long) inputs.size() + n > 1024) {
            return -1;
        }
        for (int k = 0; k < n; k++) {
            inputs.add(List.of(ahead, aside, turn, uses ? 1 : 0));
        }
        return inputs.size();
    }

    boolean undo(int n) {
        if (n < 0 || n > inputs.size()) {
            return false;
        }
        inputs = new ArrayList<>(inputs.subList(0, inputs.size() - n));
        return true;
    }

    int again(int i, int n) {
        if (i < 0 || n < 1 || (long) i + n > inputs.size() || (long) inputs.size() + n > 1024) {
            return -1;
        }
        inputs.addAll(new ArrayList<>(inputs.subList(i, i + n)));
        return inputs.size();
    }

    int write() {
        output = new ArrayList<>(List.of(77, 68, 1, start[0] >> 8 & 255, start[0] & 255, start[1] >> 8 & 255,
                start[1] & 255, start[2], start[3]));
        for (List<List<Integer>> group : groups()) {
            List<Integer> one = group.get(0);
            boolean side = one.get(1) != 0 || one.get(2) != 0;
            output.add(group.size() + 64 * one.get(3) + (side ? 128 : 0));
            output.add(one.get(0) + 64);
            if (side) {
                output.add(one.get(1) + 64);
                output.add(one.get(2) + 16);
            }
        }
        output.add(0);
        output = boxed(Tapes.checked(plain(output)));
        return output.size();
    }

    private List<List<List<Integer>>> groups() {
        List<List<List<Integer>>> groups = new ArrayList<>();
        for (List<Integer> one : inputs) {
            List<List<Integer>> last = groups.isEmpty() ? null : groups.get(groups.size() - 1);
            if (last == null || last.size() == 63 || !last.get(0).equals(one)) {
                last = new ArrayList<>();
                groups.add(last);
            }
            last.add(one);
        }
        return groups;
    }

    boolean give(long v, int n) {
        if (n < 1 || n > 8 || into.size() + n > 8192) {
            return false;
        }
        String hex = String.format("%016x", v).substring(16 - 2 * n);
        for (int k = 0; k < n; k++) {
            into.add(Integer.parseInt(hex.substring(2 * k, 2 * k + 2), 16));
        }
        return true;
    }

    void turnOver() {
        into = new ArrayList<>(output);
    }

    boolean cut(int n) {
        if (n < 0 || n > into.size()) {
            return false;
        }
        into = new ArrayList<>(into.subList(0, n));
        return true;
    }

    boolean poke(int k, int b) {
        if (k < 0 || k >= into.size()) {
            return false;
        }
        into.set(k, Math.floorMod(b, 256));
        return true;
    }

    int read() {
        Model made = new Model();
        try {
            parse(made);
            inputs = made.inputs;
            start = made.start;
            fault = 0;
            place = -1;
        } catch (Fault seen) {
            fault = seen.number;
            place = seen.place;
        }
        return fault;
    }

    private int byteOf(int k) throws Fault {
        if (k >= into.size()) {
            throw new Fault(1, into.size());
        }
        return into.get(k);
    }

    private int byteUpTo(int most, int k) throws Fault {
        if (byteOf(k) > most) {
            throw new Fault(3, k);
        }
        return byteOf(k);
    }

    private void parse(Model made) throws Fault {
        for (int k = 0; k < 3; k++) {
            if (byteOf(k) != (k == 0 ? 77 : k == 1 ? 68 : 1)) {
                throw new Fault(2, k);
            }
        }
        int x = (short) (byteOf(3) << 8 | byteOf(4));
        int y = (short) (byteOf(5) << 8 | byteOf(6));
        made.start = new int[] {x, y, byteUpTo(63, 7), byteOf(8)};
        int at = 9;
        int aheadSize = 63;
        while (byteOf(at) != 0) {
            int size = byteOf(at) % 64;
            if (size == 0) {
                throw new Fault(3, at);
            }
            if (made.inputs.size() + size > 1024) {
                throw new Fault(5, at);
            }
            List<Integer> one = parseInput(at);
            if (aheadSize != 63 && made.inputs.get(made.inputs.size() - 1).equals(one)) {
                throw new Fault(4, at);
            }
            for (int k = 0; k < size; k++) {
                made.inputs.add(one);
            }
            aheadSize = size;
            at += byteOf(at) >= 128 ? 4 : 2;
        }
        parseTail(at + 1);
    }

    private List<Integer> parseInput(int at) throws Fault {
        int uses = byteOf(at) / 64 % 2;
        int ahead = byteUpTo(128, at + 1) - 64;
        if (byteOf(at) < 128) {
            return List.of(ahead, 0, 0, uses);
        }
        int aside = byteUpTo(128, at + 2) - 64;
        int turn = byteUpTo(32, at + 3) - 16;
        if (aside == 0 && turn == 0) {
            throw new Fault(3, at + 3);
        }
        return List.of(ahead, aside, turn, uses);
    }

    private void parseTail(int at) throws Fault {
        int[] due = Tapes.checked(plain(into.subList(0, at)));
        for (int k = at; k < at + 4; k++) {
            if (byteOf(k) != due[k]) {
                throw new Fault(6, k);
            }
        }
        if (into.size() > at + 4) {
            throw new Fault(7, at + 4);
        }
    }

    int input(int i, int what) {
        boolean there = i >= 0 && i < inputs.size() && what >= 0 && what <= 3;
        return there ? inputs.get(i).get(what) : 100000;
    }

    int begin(int what) {
        return what >= 0 && what <= 3 ? start[what] : 100000;
    }

    int byteAt(int k, boolean ofInput) {
        List<Integer> bytes = ofInput ? into : output;
        return k >= 0 && k < bytes.size() ? bytes.get(k) : -1;
    }

    int look(int which) {
        int uses = 0;
        for (List<Integer> one : inputs) {
            uses += one.get(3);
        }
        int[] all = {inputs.size(), groups().size(), output.size(), into.size(), fault, place, uses};
        return which >= 0 && which < all.length ? all[which] : -1;
    }

    private static int[] plain(List<Integer> list) {
        int[] row = new int[list.size()];
        for (int k = 0; k < row.length; k++) {
            row[k] = list.get(k);
        }
        return row;
    }

    private static List<Integer> boxed(int[] row) {
        List<Integer> list = new ArrayList<>();
        for (int b : row) {
            list.add(b);
        }
        return list;
    }
}
