/** Runs of a walker: recorded, written as bytes in one way, and read up to the first fault. */
public final class DemoTape {
    public static final int NONE = -1;

    private static final int NO_SUCH = 100000;

    private static final int MOST_INPUTS = 1024;
    private static final int MOST_IN_GROUP = 63;
    private static final int MOST_INPUT_BYTES = 8192;

    private static final int AMOUNT = 64;
    private static final int TURN = 16;
    private static final int LEAST_PLACE = -32768;
    private static final int MOST_PLACE = 32767;
    private static final int PLACES = 65536;
    private static final int MOST_ANGLE = 63;
    private static final int MOST_BYTE = 255;

    private static final int[] MARK = {77, 68, 1};
    private static final int USES_BIT = 64;
    private static final int SIDE_BIT = 128;
    private static final int END = 0;
    private static final int CHECK_BYTES = 4;
    private static final int CHECK_MODULUS = 65521;
    /** Mark, START, 1024 GROUPS of four bytes, the end and the CHECK. */
    private static final int MOST_OUTPUT_BYTES = 9 + 4 * MOST_INPUTS + 1 + CHECK_BYTES;

    private static final int NO_FAULT = 0;
    private static final int ENDED = 1;
    private static final int OTHER_MARK = 2;
    private static final int IMPOSSIBLE = 3;
    private static final int SPLIT_GROUP = 4;
    private static final int TOO_MANY = 5;
    private static final int OTHER_CHECK = 6;
    private static final int LEFT_BEHIND = 7;

    private Walk walk;
    /** What read() fills: it takes the place of walk only if there was no fault. */
    private Walk spare;
    private final ByteRow outBytes;
    private final ByteRow inBytes;
    private final Reader reader;

    public DemoTape() {
        walk = new Walk();
        spare = new Walk();
        outBytes = new ByteRow(MOST_OUTPUT_BYTES);
        inBytes = new ByteRow(MOST_INPUT_BYTES);
        reader = new Reader(inBytes);
    }

    public boolean start(int x, int y, int angle, int sector) {
        if (!isWithin(x, LEAST_PLACE, MOST_PLACE) || !isWithin(y, LEAST_PLACE, MOST_PLACE)
                || !isWithin(angle, 0, MOST_ANGLE) || !isWithin(sector, 0, MOST_BYTE)) {
            return false;
        }
        walk.setStart(x, y, angle, sector);
        return true;
    }

    public int record(int ahead, int aside, int turn, boolean uses, int n) {
        if (!isWithin(ahead, -AMOUNT, AMOUNT) || !isWithin(aside, -AMOUNT, AMOUNT)
                || !isWithin(turn, -TURN, TURN) || !isWithin(n, 1, walk.room())) {
            return NONE;
        }
        walk.append(Code.of(uses, ahead + AMOUNT, aside + AMOUNT, turn + TURN), n);
        return walk.count();
    }

    public boolean undo(int n) {
        if (!isWithin(n, 0, walk.count())) {
            return false;
        }
        walk.dropLast(n);
        return true;
    }

    public int again(int i, int n) {
        if (!isWithin(i, 0, walk.count() - 1) || !isWithin(n, 1, walk.count() - i) || n > walk.room()) {
            return NONE;
        }
        walk.repeat(i, n);
        return walk.count();
    }

    public int write() {
        outBytes.keepFirst(0);
        walk.putInto(outBytes);
        return outBytes.size();
    }

    public boolean give(long v, int n) {
        if (!isWithin(n, 1, 8) || n > inBytes.room()) {
            return false;
        }
        inBytes.addLowest(v, n);
        return true;
    }

    public void turnOver() {
        inBytes.become(outBytes);
    }

    public boolean cut(int n) {
        if (!isWithin(n, 0, inBytes.size())) {
            return false;
        }
        inBytes.keepFirst(n);
        return true;
    }

    public boolean poke(int k, int b) {
        if (!isWithin(k, 0, inBytes.size() - 1)) {
            return false;
        }
        inBytes.set(k, b);
        return true;
    }

    public int read() {
        reader.readInto(spare);
        if (reader.fault() == NO_FAULT) {
            Walk old = walk;
            walk = spare;
            spare = old;
        }
        return reader.fault();
    }

    public int input(int i, int what) {
        int code = walk.codeAt(i);
        if (code == NONE) {
            return NO_SUCH;
        }
        switch (what) {
            case 0:
                return Code.aheadByte(code) - AMOUNT;
            case 1:
                return Code.asideByte(code) - AMOUNT;
            case 2:
                return Code.turnByte(code) - TURN;
            case 3:
                return Code.uses(code) ? 1 : 0;
            default:
                return NO_SUCH;
        }
    }

    public int begin(int what) {
        return walk.startPart(what);
    }

    public int byteAt(int k, boolean into) {
        return into ? inBytes.get(k) : outBytes.get(k);
    }

    public int look(int which) {
        switch (which) {
            case 0:
                return walk.count();
            case 1:
                return walk.countGroups();
            case 2:
                return outBytes.size();
            case 3:
                return inBytes.size();
            case 4:
                return reader.fault();
            case 5:
                return reader.faultPlace();
            case 6:
                return walk.countUses();
            default:
                return NONE;
        }
    }

    private static boolean isWithin(int value, int least, int most) {
        return value >= least && value <= most;
    }

    /**
     * An INPUT as one int, of the bytes that a GROUP has for it: equal INPUTS are equal ints, and
     * a RECORD needs no object for each INPUT. It is never below 0, so NONE is no code.
     */
    private static final class Code {
        private static final int USES = 1 << 24;

        static int of(boolean uses, int aheadByte, int asideByte, int turnByte) {
            return (uses ? USES : 0) | aheadByte << 16 | asideByte << 8 | turnByte;
        }

        static boolean uses(int code) {
            return (code & USES) != 0;
        }

        static int aheadByte(int code) {
            return code >> 16 & MOST_BYTE;
        }

        static int asideByte(int code) {
            return code >> 8 & MOST_BYTE;
        }

        static int turnByte(int code) {
            return code & MOST_BYTE;
        }

        static boolean hasSide(int code) {
            return asideByte(code) != AMOUNT || turnByte(code) != TURN;
        }
    }

    /** A RECORD: a START and the codes of its INPUTS. */
    private static final class Walk {
        private final int[] codes = new int[MOST_INPUTS];
        private int count;
        private int x;
        private int y;
        private int angle;
        private int sector;

        int count() {
            return count;
        }

        int room() {
            return codes.length - count;
        }

        int codeAt(int i) {
            return i >= 0 && i < count && i < codes.length ? codes[i] : NONE;
        }

        void setStart(int newX, int newY, int newAngle, int newSector) {
            x = newX;
            y = newY;
            angle = newAngle;
            sector = newSector;
        }

        int startPart(int what) {
            switch (what) {
                case 0:
                    return x;
                case 1:
                    return y;
                case 2:
                    return angle;
                case 3:
                    return sector;
                default:
                    return NO_SUCH;
            }
        }

        void append(int code, int n) {
            int size = Math.min(count + n, codes.length);
            for (int i = count; i < size; i++) {
                codes[i] = code;
            }
            count = size;
        }

        void repeat(int i, int n) {
            for (int k = 0; k < n; k++) {
                append(codeAt(i + k), 1);
            }
        }

        void dropLast(int n) {
            count = Math.max(count - n, 0);
        }

        void clear() {
            count = 0;
        }

        int countUses() {
            int uses = 0;
            for (int i = 0; i < count; i++) {
                if (Code.uses(codeAt(i))) {
                    uses++;
                }
            }
            return uses;
        }

        int countGroups() {
            int groups = 0;
            int n = 0;
            for (int i = 0; i < count; i++) {
                n++;
                if (endsGroup(i, n)) {
                    groups++;
                    n = 0;
                }
            }
            return groups;
        }

        /** Whether INPUT i, the n-th of its GROUP, is the last of it. */
        private boolean endsGroup(int i, int n) {
            return n == MOST_IN_GROUP || codeAt(i + 1) != codeAt(i);
        }

        void putInto(ByteRow row) {
            for (int k = 0; k < MARK.length; k++) {
                row.addLowest(MARK[k], 1);
            }
            row.addLowest(x, 2);
            row.addLowest(y, 2);
            row.addLowest(angle, 1);
            row.addLowest(sector, 1);
            putGroups(row);
            row.addLowest(END, 1);
            row.addLowest(row.checkOfFirst(row.size()), CHECK_BYTES);
        }

        private void putGroups(ByteRow row) {
            int n = 0;
            for (int i = 0; i < count; i++) {
                n++;
                if (endsGroup(i, n)) {
                    putGroup(row, codeAt(i), n);
                    n = 0;
                }
            }
        }

        private static void putGroup(ByteRow row, int code, int n) {
            boolean hasSide = Code.hasSide(code);
            row.addLowest(n + (Code.uses(code) ? USES_BIT : 0) + (hasSide ? SIDE_BIT : 0), 1);
            row.addLowest(Code.aheadByte(code), 1);
            if (hasSide) {
                row.addLowest(Code.asideByte(code), 1);
                row.addLowest(Code.turnByte(code), 1);
            }
        }
    }

    /** Bytes, up to a number of them that is set once. */
    private static final class ByteRow {
        private final byte[] bytes;
        private int size;

        ByteRow(int most) {
            bytes = new byte[Math.max(most, 0)];
        }

        int size() {
            return size;
        }

        int room() {
            return bytes.length - size;
        }

        int get(int k) {
            return k >= 0 && k < size && k < bytes.length ? bytes[k] & MOST_BYTE : NONE;
        }

        void set(int k, int b) {
            if (k >= 0 && k < size && k < bytes.length) {
                bytes[k] = (byte) b;
            }
        }

        /** The lowest n bytes of v, the highest of them first. */
        void addLowest(long v, int n) {
            for (int k = n - 1; k >= 0 && size < bytes.length; k--) {
                bytes[size] = (byte) (v >>> 8 * k);
                size++;
            }
        }

        void keepFirst(int n) {
            size = Math.max(Math.min(n, size), 0);
        }

        void become(ByteRow other) {
            size = Math.min(other.size, bytes.length);
            System.arraycopy(other.bytes, 0, bytes, 0, size);
        }

        int checkOfFirst(int n) {
            int a = 1;
            int b = 0;
            for (int k = 0; k < n && k < size; k++) {
                a = (a + get(k)) % CHECK_MODULUS;
                b = (b + a) % CHECK_MODULUS;
            }
            return b << 16 | a;
        }
    }

    /** READING: it stands still at the first fault, and faults behind that one do not count. */
    private static final class Reader {
        private final ByteRow row;
        private int next;
        private int aheadN;
        private int fault;
        private int faultPlace;

        Reader(ByteRow row) {
            this.row = row;
            fault = NO_FAULT;
            faultPlace = NONE;
        }

        int fault() {
            return fault;
        }

        int faultPlace() {
            return faultPlace;
        }

        void readInto(Walk walk) {
            next = 0;
            aheadN = 0;
            fault = NO_FAULT;
            faultPlace = NONE;
            walk.clear();
            takeMark();
            takeStart(walk);
            takeGroups(walk);
            takeCheck();
            if (next < row.size()) {
                fail(LEFT_BEHIND, next);
            }
        }

        private void fail(int newFault, int place) {
            if (fault == NO_FAULT) {
                fault = newFault;
                faultPlace = place;
            }
        }

        /** The next byte, or NONE behind a fault. */
        private int take(int most) {
            if (fault != NO_FAULT) {
                return NONE;
            }
            int b = row.get(next);
            if (b == NONE) {
                fail(ENDED, next);
                return NONE;
            }
            if (b > most) {
                fail(IMPOSSIBLE, next);
                return NONE;
            }
            next++;
            return b;
        }

        private void takeOnly(int due, int faultOfOther) {
            int place = next;
            if (take(MOST_BYTE) != due) {
                fail(faultOfOther, place);
            }
        }

        private void takeMark() {
            for (int k = 0; k < MARK.length; k++) {
                takeOnly(MARK[k], OTHER_MARK);
            }
        }

        private void takeStart(Walk walk) {
            int x = takePlace();
            int y = takePlace();
            int angle = take(MOST_ANGLE);
            int sector = take(MOST_BYTE);
            walk.setStart(x, y, angle, sector);
        }

        private int takePlace() {
            int high = take(MOST_BYTE);
            int low = take(MOST_BYTE);
            int place = high * 256 + low;
            return place > MOST_PLACE ? place - PLACES : place;
        }

        /** A GROUP has one INPUT at least: what comes behind 1024 of them is the end or a fault. */
        private void takeGroups(Walk walk) {
            boolean goesOn = true;
            for (int groups = 0; goesOn && groups <= MOST_INPUTS; groups++) {
                goesOn = takeGroup(walk);
            }
        }

        /** False at the end of the GROUPS or at a fault. */
        private boolean takeGroup(Walk walk) {
            int place = next;
            int first = take(MOST_BYTE);
            if (first == NONE || first == END) {
                return false;
            }
            int n = first & MOST_IN_GROUP;
            if (n == 0) {
                fail(IMPOSSIBLE, place);
            }
            if (n > walk.room()) {
                fail(TOO_MANY, place);
            }
            int code = takeCode(first);
            if (aheadN < MOST_IN_GROUP && walk.codeAt(walk.count() - 1) == code) {
                fail(SPLIT_GROUP, place);
            }
            if (fault != NO_FAULT) {
                return false;
            }
            walk.append(code, n);
            aheadN = n;
            return true;
        }

        private int takeCode(int first) {
            boolean uses = (first & USES_BIT) != 0;
            int ahead = take(2 * AMOUNT);
            if ((first & SIDE_BIT) == 0) {
                return Code.of(uses, ahead, AMOUNT, TURN);
            }
            int aside = take(2 * AMOUNT);
            int turnPlace = next;
            int turn = take(2 * TURN);
            if (aside == AMOUNT && turn == TURN) {
                fail(IMPOSSIBLE, turnPlace);
            }
            return Code.of(uses, ahead, aside, turn);
        }

        private void takeCheck() {
            int check = row.checkOfFirst(next);
            for (int k = CHECK_BYTES - 1; k >= 0; k--) {
                takeOnly(check >>> 8 * k & MOST_BYTE, OTHER_CHECK);
            }
        }
    }
}
