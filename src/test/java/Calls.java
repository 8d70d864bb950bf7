/**
 * One object of the class, and its calls. The document promises nothing behind an object's 512th
 * call, so a test that makes more of them on one object is itself at fault.
 */
final class Calls {
    static final int PROMISED = 512;

    private final ProcedureCode object = new ProcedureCode();
    private int made = 0;

    private ProcedureCode next() {
        made++;
        if (made > PROMISED) {
            throw new IllegalStateException("this test makes more than " + PROMISED + " calls on one object");
        }
        return object;
    }

    int left() {
        return PROMISED - made;
    }

    int cell(int usage, int digits, int place) {
        return next().cell(usage, digits, place);
    }

    int node(int kind, int a, int b) {
        return next().node(kind, a, b);
    }

    int make(int root) {
        return next().make(root);
    }

    int code(int i, int what) {
        return next().code(i, what);
    }

    int run(boolean code, int root) {
        return next().run(code, root);
    }

    byte at(boolean code, int place) {
        return next().at(code, place);
    }

    int put(int place, int b) {
        return next().put(place, (byte) b);
    }

    boolean fast(int i) {
        return next().fast(i);
    }

    int point(int i) {
        return next().point(i);
    }

    int raised(boolean code) {
        return next().raised(code);
    }

    boolean same(int root) {
        return next().same(root);
    }

    /** A node that is a number. */
    int number(int value) {
        return node(0, value, 0);
    }

    /** A node that is what a cell says. */
    int says(int cell) {
        return node(1, cell, 0);
    }

    /** A folded node of 64 bits, put together without going round. */
    int whole(long value) {
        if (value == (int) value) {
            return number((int) value);
        }
        int step = number(1 << 16);
        int high = node(5, node(5, number((int) (value >> 32)), step), step);
        int middle = node(5, number((int) (value >>> 16 & 0xffff)), step);
        return node(3, node(3, high, middle), number((int) (value & 0xffff)));
    }

    /** A node that stores a value elsewhere in its cell's sizes. */
    int storeBehind(int cell, int sizes, int value) {
        return node(10, cell, node(11, sizes, value));
    }

    /** A loop of so many times. */
    int times(int count, int body) {
        return node(13, number(count), body);
    }

    /**
     * A value whose code has so many rows, of one cell, sums and elements of it; while the cell says
     * 0, so does the value.
     */
    int valueOfRows(int cell, int rows) {
        if (rows == 1) {
            return says(cell);
        }
        if (rows % 2 == 0) {
            return node(2, cell, valueOfRows(cell, rows - 1));
        }
        int half = valueOfRows(cell, rows / 2);
        return node(3, half, half);
    }

    /** A node's code as "op,number op,number .."; what make() answers when it gives no rows. */
    String rows(int root) {
        int count = make(root);
        return count < 0 ? "answer " + count : kept();
    }

    /** The code that there is, up to the row that there is not. */
    String kept() {
        StringBuilder text = new StringBuilder();
        for (int i = 0; ; i++) {
            int op = code(i, 0);
            if (op == -1) {
                return text.toString();
            }
            text.append(i == 0 ? "" : " ").append(op).append(',').append(code(i, 1));
        }
    }

    String bytes(boolean code, int from, int count) {
        StringBuilder text = new StringBuilder();
        for (int i = from; i < from + count; i++) {
            text.append(i == from ? "" : " ").append(at(code, i));
        }
        return text.toString();
    }

    /** What at() throws, by its name; nothing when it answers. */
    String thrownAt(boolean code, int place) {
        try {
            at(code, place);
            return "";
        } catch (RuntimeException e) {
            return e.getClass().getSimpleName();
        }
    }

    /** Runs a node both ways, which must come to the same: 0 when both ended, else what they raised. */
    int both(int root) {
        Due.is("same(" + root + ")", same(root), true);
        int walked = run(false, root);
        int raised = raised(false);
        Due.is("run(false, " + root + ") beside what it raised", walked, raised == 0 ? 1 : 2);
        Due.is("run(true, " + root + ") beside the walk", run(true, root), walked);
        Due.is("raised(true) beside the walk", raised(true), raised);
        return raised;
    }

    /** What a byte is on both storages, which must be alike there. */
    int byteOnBoth(int place) {
        int walked = at(false, place);
        Due.is("at(true, " + place + ") beside the walk", at(true, place), walked);
        return walked;
    }

    /** What some bytes are on both storages, which must be alike there. */
    String bytesOnBoth(int from, int count) {
        String walked = bytes(false, from, count);
        Due.is("the code's bytes from " + from + " on, beside the walk's", bytes(true, from, count), walked);
        return walked;
    }
}
