/**
 * Trees of a business language's statements, made to a code of rows; the tree is walked on one
 * storage and the code stepped on another one.
 */
public final class ProcedureCode {
    public static final int NONE = -1;

    private static final int NO_SUCH = -2;
    private static final int NOT_SO = -4;

    private static final int MAX_CELLS = 40;
    private static final int MAX_NODES = 200;
    private static final int MAX_ROWS = 400;
    private static final int MAX_COUNTS = 1000;
    private static final int STORAGE_SIZE = 64;

    private static final int ZONED = 0;
    private static final int PACKED = 1;
    private static final int BINARY = 2;
    private static final int MAX_CELL_DIGITS = 9;
    private static final int BINARY_SIZE = 4;
    private static final int BINARY_DIGITS = 10;
    private static final int ZONED_ZERO = 48;
    private static final int ZONED_MINUS = 64;
    private static final int PACKED_PLUS = 12;
    private static final int PACKED_MINUS = 13;

    // Kinds of nodes, which are the ops of their rows too.
    private static final int NUMBER = 0;
    private static final int CELL = 1;
    private static final int ELEMENT = 2;
    private static final int ADD = 3;
    private static final int SUBTRACT = 4;
    private static final int MULTIPLY = 5;
    private static final int DIVIDE = 6;
    private static final int LESS = 7;
    private static final int EQUAL = 8;
    private static final int STORE = 9;
    private static final int STORE_ELEMENT = 10;
    private static final int SEQUENCE = 11;
    private static final int IF = 12;
    private static final int LOOP = 13;
    // Ops that no node has for its kind.
    private static final int AGAIN = 14;
    private static final int DROP = 15;

    private static final int ENDED = 1;
    private static final int WAS_RAISED = 2;
    private static final int NOT_RUN = 0;

    private static final int RAISED_OUTSIDE = 1;
    private static final int RAISED_DIVISION = 2;
    private static final int RAISED_COUNTS = 3;

    private static final int FAST_DIGITS = 18;
    // Products double the digits at every node; beyond FAST_DIGITS it is the same how many they are.
    private static final int DIGITS_CAP = 100;
    // At most MAX_ROWS rows are stepped between two counts of a loop, so no run comes near to it.
    private static final int STEP_BOUND = 1000000;

    private final Cells cells = new Cells();
    private final Tree tree = new Tree(cells);
    private final Rows rows = new Rows(tree);
    private final Storage walked = new Storage(cells);
    private final Storage stepped = new Storage(cells);
    private final Storage trialWalked = new Storage(cells);
    private final Storage trialStepped = new Storage(cells);

    public ProcedureCode() {
    }

    public int cell(int usage, int digits, int place) {
        return cells.add(usage, digits, place);
    }

    public int node(int kind, int a, int b) {
        return tree.add(kind, a, b);
    }

    public int make(int root) {
        return rows.build(root);
    }

    public int code(int i, int what) {
        if (!rows.has(i)) {
            return NONE;
        }
        if (what == 0) {
            return rows.opOf(i);
        }
        return what == 1 ? (int) rows.numberOf(i) : NONE;
    }

    public int run(boolean code, int root) {
        if (code) {
            if (make(root) < 0) {
                return NOT_RUN;
            }
            rows.stepAll(stepped);
            return stepped.outcome();
        }
        // Where there is no place for a node's code, its walk might be endlessly long, too.
        if (!tree.has(root) || tree.rowsOf(root) > MAX_ROWS) {
            return NOT_RUN;
        }
        tree.walkAll(walked, root);
        return walked.outcome();
    }

    public byte at(boolean code, int place) throws ArrayIndexOutOfBoundsException {
        if (!Storage.holds(place)) {
            throw new ArrayIndexOutOfBoundsException();
        }
        return code ? stepped.byteAt(place) : walked.byteAt(place);
    }

    public int put(int place, byte b) {
        if (!Storage.holds(place)) {
            return NOT_SO;
        }
        walked.setByte(place, b);
        stepped.setByte(place, b);
        return 1;
    }

    public boolean fast(int i) {
        return rows.has(i) && rows.isShort(i);
    }

    public int point(int i) {
        return rows.storingRow(i);
    }

    public int raised(boolean code) {
        return code ? stepped.raise : walked.raise;
    }

    public boolean same(int root) {
        if (make(root) < 0) {
            return false;
        }
        trialWalked.copyFrom(walked);
        trialStepped.copyFrom(walked);
        tree.walkAll(trialWalked, root);
        rows.stepAll(trialStepped);
        return trialWalked.isLike(trialStepped);
    }

    /** What two numbers give by a kind 3 .. 8; a division by zero is the caller's to refuse. */
    private static long reckon(int kind, long x, long y) {
        switch (kind) {
            case ADD:
                return x + y;
            case SUBTRACT:
                return x - y;
            case MULTIPLY:
                return x * y;
            case DIVIDE:
                return y == 0 ? 0 : x / y;
            case LESS:
                return x < y ? 1 : 0;
            default:
                return x == y ? 1 : 0;
        }
    }

    private static boolean isReckoned(int kind) {
        return kind >= ADD && kind <= EQUAL;
    }

    /** The cells that there are, and how their numbers stand in bytes. */
    private static final class Cells {
        private final int[] usages = new int[MAX_CELLS];
        private final int[] digits = new int[MAX_CELLS];
        private final int[] places = new int[MAX_CELLS];
        private int count;

        boolean has(int c) {
            return c >= 0 && c < count;
        }

        int add(int usage, int digitCount, int place) {
            if (usage < ZONED || usage > BINARY || digitCount < 1 || digitCount > MAX_CELL_DIGITS) {
                return NOT_SO;
            }
            if (place < 0 || place > STORAGE_SIZE - sizeFor(usage, digitCount)) {
                return NOT_SO;
            }
            if (count >= MAX_CELLS) {
                return NONE;
            }
            usages[count] = usage;
            digits[count] = digitCount;
            places[count] = place;
            count++;
            return count - 1;
        }

        private static int sizeFor(int usage, int digitCount) {
            if (usage == BINARY) {
                return BINARY_SIZE;
            }
            return usage == PACKED ? digitCount / 2 + 1 : digitCount;
        }

        /** The digits that a cell's number has at the most. */
        int surelyWithin(int c) {
            if (!has(c)) {
                return 0;
            }
            return usages[c] == BINARY ? BINARY_DIGITS : digits[c];
        }

        /** Where a cell would stand, so many of its sizes behind; NONE when not wholly inside. */
        int placeBehind(int c, long sizes) {
            // The far ones are refused first, as their place could go round 64 bits.
            if (!has(c) || sizes < -STORAGE_SIZE || sizes > STORAGE_SIZE) {
                return NONE;
            }
            int size = sizeFor(usages[c], digits[c]);
            int place = places[c] + (int) sizes * size;
            return place < 0 || place > STORAGE_SIZE - size ? NONE : place;
        }

        /** The number of a cell that stands at a place which placeBehind() told. */
        long read(byte[] bytes, int c, int place) {
            if (!has(c)) {
                return 0;
            }
            if (usages[c] == BINARY) {
                return readBinary(bytes, place);
            }
            return usages[c] == PACKED ? readPacked(bytes, place, digits[c]) : readZoned(bytes, place, digits[c]);
        }

        /** Stores a number in a cell that stands at a place which placeBehind() told. */
        void write(byte[] bytes, int c, int place, long number) {
            if (!has(c)) {
                return;
            }
            long kept = lowestDigits(number, digits[c]);
            if (usages[c] == BINARY) {
                writeBinary(bytes, place, (int) kept);
            } else if (usages[c] == PACKED) {
                writePacked(bytes, place, digits[c], kept);
            } else {
                writeZoned(bytes, place, digits[c], kept);
            }
        }

        private static long lowestDigits(long number, int digitCount) {
            long kept = 0;
            long rest = number;
            long unit = 1;
            // Each digit has the number's sign, so what is kept of them has it, too.
            for (int i = 0; i < digitCount && i < MAX_CELL_DIGITS; i++) {
                kept += rest % 10 * unit;
                rest /= 10;
                unit *= 10;
            }
            return kept;
        }

        private static boolean isInside(byte[] bytes, int place, int size) {
            return place >= 0 && size >= 1 && size <= bytes.length && place <= bytes.length - size;
        }

        private static long readZoned(byte[] bytes, int place, int digitCount) {
            if (!isInside(bytes, place, digitCount)) {
                return 0;
            }
            long number = 0;
            for (int i = place; i < place + digitCount; i++) {
                number = number * 10 + (bytes[i] & 15) % 10;
            }
            return (bytes[place + digitCount - 1] & ZONED_MINUS) != 0 ? -number : number;
        }

        private static void writeZoned(byte[] bytes, int place, int digitCount, long number) {
            if (!isInside(bytes, place, digitCount)) {
                return;
            }
            long rest = number < 0 ? -number : number;
            int sign = number < 0 ? ZONED_MINUS : 0;
            for (int i = place + digitCount - 1; i >= place; i--) {
                bytes[i] = (byte) (ZONED_ZERO + rest % 10 + sign);
                rest /= 10;
                sign = 0;
            }
        }

        private static long readPacked(byte[] bytes, int place, int digitCount) {
            int size = sizeFor(PACKED, digitCount);
            if (!isInside(bytes, place, size)) {
                return 0;
            }
            long number = 0;
            int firstHalf = digitCount % 2 == 0 ? 1 : 0;
            int signHalf = size * 2 - 1;
            for (int h = firstHalf; h < signHalf; h++) {
                int both = bytes[place + h / 2] & 255;
                int half = h % 2 == 0 ? both >> 4 : both & 15;
                number = number * 10 + half % 10;
            }
            return (bytes[place + size - 1] & 15) == PACKED_MINUS ? -number : number;
        }

        private static void writePacked(byte[] bytes, int place, int digitCount, long number) {
            int size = sizeFor(PACKED, digitCount);
            if (!isInside(bytes, place, size)) {
                return;
            }
            long rest = number < 0 ? -number : number;
            int right = number < 0 ? PACKED_MINUS : PACKED_PLUS;
            for (int i = place + size - 1; i >= place; i--) {
                int left = (int) (rest % 10);
                bytes[i] = (byte) (left << 4 | right);
                right = (int) (rest / 10 % 10);
                rest /= 100;
            }
        }

        private static long readBinary(byte[] bytes, int place) {
            if (!isInside(bytes, place, BINARY_SIZE)) {
                return 0;
            }
            int number = 0;
            for (int i = place; i < place + BINARY_SIZE; i++) {
                number = number << 8 | bytes[i] & 255;
            }
            return number;
        }

        private static void writeBinary(byte[] bytes, int place, int number) {
            if (!isInside(bytes, place, BINARY_SIZE)) {
                return;
            }
            int rest = number;
            for (int i = place + BINARY_SIZE - 1; i >= place; i--) {
                bytes[i] = (byte) rest;
                rest >>= 8;
            }
        }
    }

    /** The bytes that a run works on, with what raised the latest run on them. */
    private static final class Storage {
        private final Cells cells;
        private final byte[] bytes = new byte[STORAGE_SIZE];
        private int raise;
        private int counts;

        Storage(Cells cells) {
            this.cells = cells;
        }

        static boolean holds(int place) {
            return place >= 0 && place < STORAGE_SIZE;
        }

        byte byteAt(int place) {
            return holds(place) ? bytes[place] : 0;
        }

        void setByte(int place, byte b) {
            if (holds(place)) {
                bytes[place] = b;
            }
        }

        void copyFrom(Storage other) {
            System.arraycopy(other.bytes, 0, bytes, 0, STORAGE_SIZE);
        }

        boolean isLike(Storage other) {
            for (int i = 0; i < STORAGE_SIZE; i++) {
                if (bytes[i] != other.bytes[i]) {
                    return false;
                }
            }
            return raise == other.raise;
        }

        void begin() {
            raise = 0;
            counts = 0;
        }

        int outcome() {
            return raise == 0 ? ENDED : WAS_RAISED;
        }

        long load(int c, long sizes) {
            if (raise != 0) {
                return 0;
            }
            int place = cells.placeBehind(c, sizes);
            if (place == NONE) {
                raise = RAISED_OUTSIDE;
                return 0;
            }
            return cells.read(bytes, c, place);
        }

        void save(int c, long sizes, long number) {
            if (raise != 0) {
                return;
            }
            int place = cells.placeBehind(c, sizes);
            if (place == NONE) {
                raise = RAISED_OUTSIDE;
                return;
            }
            countOne();
            if (raise == 0) {
                cells.write(bytes, c, place, number);
            }
        }

        long result(int kind, long x, long y) {
            if (raise != 0) {
                return 0;
            }
            if (kind == DIVIDE && y == 0) {
                raise = RAISED_DIVISION;
                return 0;
            }
            return reckon(kind, x, y);
        }

        void countOne() {
            if (raise != 0) {
                return;
            }
            counts++;
            if (counts > MAX_COUNTS) {
                raise = RAISED_COUNTS;
            }
        }
    }

    /** The nodes that there are, from 1 on, with what is certain of each; and the walk over them. */
    private static final class Tree {
        private final Cells cells;
        private final int[] kinds = new int[MAX_NODES + 1];
        private final int[] firsts = new int[MAX_NODES + 1];
        private final int[] seconds = new int[MAX_NODES + 1];
        private final int[] digits = new int[MAX_NODES + 1];
        private final int[] rowCounts = new int[MAX_NODES + 1];
        private final boolean[] folded = new boolean[MAX_NODES + 1];
        private final long[] numbers = new long[MAX_NODES + 1];
        private int count;

        Tree(Cells cells) {
            this.cells = cells;
        }

        boolean has(int n) {
            return n >= 1 && n <= count;
        }

        int kindOf(int n) {
            return has(n) ? kinds[n] : NONE;
        }

        int firstOf(int n) {
            return has(n) ? firsts[n] : NONE;
        }

        int secondOf(int n) {
            return has(n) ? seconds[n] : NONE;
        }

        int digitsOf(int n) {
            return has(n) ? digits[n] : 0;
        }

        /** How many rows a node's code has; more than MAX_ROWS all count as one more. */
        int rowsOf(int n) {
            return has(n) ? rowCounts[n] : 0;
        }

        boolean isFolded(int n) {
            return has(n) && folded[n];
        }

        long foldedOf(int n) {
            return has(n) ? numbers[n] : 0;
        }

        boolean isValue(int n) {
            return has(n) && kinds[n] < STORE;
        }

        int add(int kind, int a, int b) {
            if (kind < NUMBER || kind > LOOP) {
                return NOT_SO;
            }
            if (!areSides(kind, a, b)) {
                return NO_SUCH;
            }
            if (count >= MAX_NODES) {
                return NONE;
            }
            int n = count + 1;
            kinds[n] = kind;
            firsts[n] = a;
            seconds[n] = b;
            fold(n, kind, a, b);
            digits[n] = Math.min(DIGITS_CAP, digitsFor(kind, a, b));
            rowCounts[n] = folded[n] ? 1 : Math.min(MAX_ROWS + 1, rowsFor(kind, a, b));
            count = n;
            return n;
        }

        private boolean areSides(int kind, int a, int b) {
            switch (kind) {
                case NUMBER:
                    return true;
                case CELL:
                    return cells.has(a);
                case ELEMENT:
                case STORE:
                    return cells.has(a) && isValue(b);
                case STORE_ELEMENT:
                    return cells.has(a) && kindOf(b) == SEQUENCE && isValue(firstOf(b)) && isValue(secondOf(b));
                case SEQUENCE:
                    return has(a) && has(b);
                case IF:
                case LOOP:
                    return isValue(a) && has(b);
                default:
                    return isValue(a) && isValue(b);
            }
        }

        private void fold(int n, int kind, int a, int b) {
            if (n < 1 || n > MAX_NODES) {
                return;
            }
            if (kind == NUMBER) {
                folded[n] = true;
                numbers[n] = a;
            } else if (isReckoned(kind) && isFolded(a) && isFolded(b)) {
                folded[n] = kind != DIVIDE || foldedOf(b) != 0;
                numbers[n] = reckon(kind, foldedOf(a), foldedOf(b));
            }
        }

        private int digitsFor(int kind, int a, int b) {
            switch (kind) {
                case NUMBER:
                    return digitsIn(a);
                case CELL:
                case ELEMENT:
                    return cells.surelyWithin(a);
                case ADD:
                case SUBTRACT:
                    return Math.max(digitsOf(a), digitsOf(b)) + 1;
                case MULTIPLY:
                    return digitsOf(a) + digitsOf(b);
                case DIVIDE:
                    return digitsOf(a);
                case LESS:
                case EQUAL:
                    return 1;
                default:
                    return 0;
            }
        }

        private static int digitsIn(int number) {
            int found = 1;
            int rest = number / 10;
            while (rest != 0 && found < BINARY_DIGITS) {
                found++;
                rest /= 10;
            }
            return found;
        }

        private int rowsFor(int kind, int a, int b) {
            switch (kind) {
                case NUMBER:
                case CELL:
                    return 1;
                case ELEMENT:
                case STORE:
                    return rowsOf(b) + 1;
                case STORE_ELEMENT:
                    return rowsOf(firstOf(b)) + rowsOf(secondOf(b)) + 1;
                case SEQUENCE:
                    return rowsAlone(a) + rowsAlone(b);
                case IF:
                    return rowsOf(a) + 1 + rowsAlone(b);
                case LOOP:
                    return rowsOf(a) + 2 + rowsAlone(b);
                default:
                    return rowsOf(a) + rowsOf(b) + 1;
            }
        }

        /** A node's rows at a statement's place, where a value is dropped by a row of its own. */
        private int rowsAlone(int n) {
            return isValue(n) ? rowsOf(n) + 1 : rowsOf(n);
        }

        void walkAll(Storage storage, int root) {
            storage.begin();
            walk(storage, root, 1);
        }

        /** What a node says; once the run is raised, nothing more is done. */
        private long walk(Storage s, int n, int depth) {
            if (depth > MAX_NODES || !has(n) || s.raise != 0) {
                return 0;
            }
            // A folded node can share its parts so often that to walk them would never end.
            if (isFolded(n)) {
                return foldedOf(n);
            }
            int kind = kindOf(n);
            int a = firstOf(n);
            int b = secondOf(n);
            switch (kind) {
                case CELL:
                    return s.load(a, 0);
                case ELEMENT:
                    return s.load(a, walk(s, b, depth + 1));
                case STORE:
                    s.save(a, 0, walk(s, b, depth + 1));
                    return 0;
                case STORE_ELEMENT:
                    long sizes = walk(s, firstOf(b), depth + 1);
                    s.save(a, sizes, walk(s, secondOf(b), depth + 1));
                    return 0;
                case SEQUENCE:
                    walk(s, a, depth + 1);
                    walk(s, b, depth + 1);
                    return 0;
                case IF:
                    if (walk(s, a, depth + 1) != 0) {
                        walk(s, b, depth + 1);
                    }
                    return 0;
                case LOOP:
                    // One time more than can be counted raises, so there is no need of others.
                    long times = Math.min(walk(s, a, depth + 1), MAX_COUNTS + 1);
                    for (long i = 0; i < times && s.raise == 0; i++) {
                        s.countOne();
                        walk(s, b, depth + 1);
                    }
                    return 0;
                default:
                    long x = walk(s, a, depth + 1);
                    return s.result(kind, x, walk(s, b, depth + 1));
            }
        }
    }

    /** The rows of a node's code, and the stepping through them. */
    private static final class Rows {
        private final Tree tree;
        private final int[] ops = new int[MAX_ROWS];
        private final long[] numbers = new long[MAX_ROWS];
        private final boolean[] shortWays = new boolean[MAX_ROWS];
        private int count;
        // Values not taken yet, and of every open loop how many times are left: at most one a node.
        private final long[] stack = new long[MAX_NODES + 1];
        private int top;

        Rows(Tree tree) {
            this.tree = tree;
        }

        boolean has(int i) {
            return i >= 0 && i < count;
        }

        int opOf(int i) {
            return has(i) ? ops[i] : NONE;
        }

        long numberOf(int i) {
            return has(i) ? numbers[i] : NONE;
        }

        boolean isShort(int i) {
            return has(i) && shortWays[i];
        }

        int storingRow(int wanted) {
            int seen = 0;
            for (int i = 0; i < count && i < MAX_ROWS; i++) {
                if (ops[i] == STORE || ops[i] == STORE_ELEMENT) {
                    if (seen == wanted) {
                        return i;
                    }
                    seen++;
                }
            }
            return NONE;
        }

        int build(int root) {
            if (!tree.has(root)) {
                return NO_SUCH;
            }
            count = 0;
            if (tree.rowsOf(root) > MAX_ROWS) {
                return NONE;
            }
            emit(root, false, 1);
            return count;
        }

        /** Puts a node's rows behind the others; where it stands alone, its value is dropped. */
        private void emit(int n, boolean alone, int depth) {
            if (depth > MAX_NODES || !tree.has(n)) {
                return;
            }
            int kind = tree.kindOf(n);
            int a = tree.firstOf(n);
            int b = tree.secondOf(n);
            if (tree.isFolded(n)) {
                addRow(NUMBER, tree.foldedOf(n), false);
            } else if (kind == CELL) {
                addRow(CELL, a, false);
            } else if (kind == ELEMENT || kind == STORE) {
                emit(b, false, depth + 1);
                addRow(kind, a, false);
            } else if (kind == STORE_ELEMENT) {
                emit(tree.firstOf(b), false, depth + 1);
                emit(tree.secondOf(b), false, depth + 1);
                addRow(STORE_ELEMENT, a, false);
            } else if (kind == SEQUENCE) {
                emit(a, true, depth + 1);
                emit(b, true, depth + 1);
            } else if (kind == IF || kind == LOOP) {
                emit(a, false, depth + 1);
                int jump = count;
                addRow(kind, 0, false);
                emit(b, true, depth + 1);
                if (kind == LOOP) {
                    addRow(AGAIN, jump + 1, false);
                }
                aim(jump, count);
            } else {
                emit(a, false, depth + 1);
                emit(b, false, depth + 1);
                addRow(kind, 0, kind <= DIVIDE && tree.digitsOf(n) <= FAST_DIGITS);
            }
            if (alone && tree.isValue(n)) {
                addRow(DROP, 0, false);
            }
        }

        private void addRow(int op, long number, boolean shortWay) {
            if (count < 0 || count >= MAX_ROWS) {
                return;
            }
            ops[count] = op;
            numbers[count] = number;
            shortWays[count] = shortWay;
            count++;
        }

        private void aim(int row, int goal) {
            if (has(row)) {
                numbers[row] = goal;
            }
        }

        void stepAll(Storage storage) {
            storage.begin();
            top = 0;
            int row = 0;
            for (int steps = 0; steps < STEP_BOUND && has(row) && storage.raise == 0; steps++) {
                row = step(storage, row);
            }
        }

        /** Does one row, and tells the next one. */
        private int step(Storage s, int row) {
            int op = opOf(row);
            long number = numberOf(row);
            int target = (int) number;
            switch (op) {
                case NUMBER:
                    push(number);
                    return row + 1;
                case CELL:
                    push(s.load(target, 0));
                    return row + 1;
                case ELEMENT:
                    push(s.load(target, pop()));
                    return row + 1;
                case STORE:
                    s.save(target, 0, pop());
                    return row + 1;
                case STORE_ELEMENT:
                    long stored = pop();
                    s.save(target, pop(), stored);
                    return row + 1;
                case IF:
                    return pop() == 0 ? target : row + 1;
                case LOOP:
                    return nextTime(s, row + 1, target);
                case AGAIN:
                    return nextTime(s, target, row + 1);
                case DROP:
                    pop();
                    return row + 1;
                default:
                    long y = pop();
                    push(s.result(op, pop(), y));
                    return row + 1;
            }
        }

        /** Goes into a loop's body while times are left on the stack, else behind the loop. */
        private int nextTime(Storage s, int body, int behind) {
            long left = pop();
            if (left <= 0) {
                return behind;
            }
            s.countOne();
            push(left - 1);
            return body;
        }

        private void push(long value) {
            if (top >= 0 && top < stack.length) {
                stack[top] = value;
                top++;
            }
        }

        private long pop() {
            if (top < 1 || top > stack.length) {
                return 0;
            }
            top--;
            return stack[top];
        }
    }
}
