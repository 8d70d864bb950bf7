import java.math.BigInteger;
import java.util.ArrayList;
import java.util.List;
import java.util.Random;

/**
 * Long runs of calls beside a second, plainer model of the document: numbers as BigInteger, digits
 * as text, a raise as an exception, rows as lists of their own for every node.
 */
public final class ModelTest {
    private static final int OBJECTS = 4000;

    private static final class Raise extends RuntimeException {
        private static final long serialVersionUID = 1L;
        final int why;

        Raise(int why) {
            super(null, null, false, false);
            this.why = why;
        }
    }

    /** A row, with jumps that are told from the row itself until the whole code stands. */
    private record Row(int op, long number, boolean fast) {
    }

    private static final class Model {
        final List<int[]> cells = new ArrayList<>();
        final List<int[]> nodes = new ArrayList<>();
        final byte[][] storages = new byte[2][64];
        final int[] raised = new int[2];
        List<Row> code = new ArrayList<>();
        byte[] bytes;
        int counts;

        Model() {
            nodes.add(new int[] {-1, 0, 0});
        }

        static int size(int[] cell) {
            return cell[0] == 0 ? cell[1] : cell[0] == 1 ? cell[1] / 2 + 1 : 4;
        }

        int cell(int usage, int digits, int place) {
            int[] c = {usage, digits, place};
            boolean so = usage >= 0 && usage < 3 && digits > 0 && digits < 10 && place >= 0;
            if (!so || (long) place + size(c) > 64) {
                return -4;
            }
            if (cells.size() == 40) {
                return -1;
            }
            cells.add(c);
            return cells.size() - 1;
        }

        boolean isNode(int n) {
            return n > 0 && n < nodes.size();
        }

        boolean isValue(int n) {
            return isNode(n) && nodes.get(n)[0] < 9;
        }

        int node(int kind, int a, int b) {
            if (kind < 0 || kind > 13) {
                return -4;
            }
            boolean needsCell = kind == 1 || kind == 2 || kind == 9 || kind == 10;
            if (needsCell && (a < 0 || a >= cells.size())) {
                return -2;
            }
            boolean takesA = kind >= 3 && kind <= 8 || kind == 12 || kind == 13;
            boolean takesB = kind >= 2 && kind <= 9;
            boolean hasB = kind >= 10;
            if (takesA && !isValue(a) || takesB && !isValue(b) || hasB && !isNode(b) || kind == 11 && !isNode(a)) {
                return -2;
            }
            if (kind == 10) {
                int[] pair = nodes.get(b);
                if (pair[0] != 11 || !isValue(pair[1]) || !isValue(pair[2])) {
                    return -2;
                }
            }
            if (nodes.size() == 201) {
                return -1;
            }
            nodes.add(new int[] {kind, a, b});
            return nodes.size() - 1;
        }

        static long reckon(int kind, long x, long y) {
            BigInteger p = BigInteger.valueOf(x);
            BigInteger q = BigInteger.valueOf(y);
            return switch (kind) {
                case 3 -> p.add(q).longValue();
                case 4 -> p.subtract(q).longValue();
                case 5 -> p.multiply(q).longValue();
                case 6 -> p.divide(q).longValue();
                case 7 -> p.compareTo(q) < 0 ? 1 : 0;
                default -> p.equals(q) ? 1 : 0;
            };
        }

        BigInteger digits(int n) {
            int kind = nodes.get(n)[0];
            int a = nodes.get(n)[1];
            int b = nodes.get(n)[2];
            return switch (kind) {
                case 0 -> BigInteger.valueOf(("" + a).replace("-", "").length());
                case 1, 2 -> BigInteger.valueOf(cells.get(a)[0] == 2 ? 10 : cells.get(a)[1]);
                case 3, 4 -> digits(a).max(digits(b)).add(BigInteger.ONE);
                case 5 -> digits(a).add(digits(b));
                case 6 -> digits(a);
                default -> BigInteger.ONE;
            };
        }

        /** Null when there would be too many rows. */
        List<Row> rowsOf(int n, boolean alone) {
            int kind = nodes.get(n)[0];
            int a = nodes.get(n)[1];
            int b = nodes.get(n)[2];
            List<Row> rows = new ArrayList<>();
            if (kind == 0) {
                rows.add(new Row(0, a, false));
            } else if (kind == 1) {
                rows.add(new Row(1, a, false));
            } else if (kind == 2 || kind == 9) {
                join(rows, rowsOf(b, false));
                rows.add(new Row(kind, a, false));
            } else if (kind == 10) {
                join(rows, rowsOf(nodes.get(b)[1], false));
                join(rows, rowsOf(nodes.get(b)[2], false));
                rows.add(new Row(10, a, false));
            } else if (kind == 11) {
                join(rows, rowsOf(a, true));
                join(rows, rowsOf(b, true));
            } else if (kind >= 12) {
                List<Row> body = rowsOf(b, true);
                join(rows, rowsOf(a, false));
                int start = rows.size() + 1;
                rows.add(new Row(kind, start + body.size() + (kind == 13 ? 1 : 0), false));
                join(rows, body);
                if (kind == 13) {
                    rows.add(new Row(14, start, false));
                }
            } else {
                reckonedRows(rows, n);
            }
            if (alone && kind < 9) {
                rows.add(new Row(15, 0, false));
            }
            if (rows.size() > 400) {
                throw new IllegalStateException();
            }
            return rows;
        }

        void reckonedRows(List<Row> rows, int n) {
            int[] node = nodes.get(n);
            List<Row> left = rowsOf(node[1], false);
            List<Row> right = rowsOf(node[2], false);
            boolean numbers = left.size() == 1 && left.get(0).op == 0 && right.size() == 1 && right.get(0).op == 0;
            if (numbers && (node[0] != 6 || right.get(0).number != 0)) {
                rows.add(new Row(0, reckon(node[0], left.get(0).number, right.get(0).number), false));
                return;
            }
            join(rows, left);
            join(rows, right);
            boolean fast = node[0] <= 6 && digits(n).compareTo(BigInteger.valueOf(18)) <= 0;
            rows.add(new Row(node[0], 0, fast));
        }

        static void join(List<Row> rows, List<Row> more) {
            int from = rows.size();
            for (Row r : more) {
                boolean jump = r.op >= 12 && r.op <= 14;
                rows.add(jump ? new Row(r.op, r.number + from, false) : r);
            }
        }

        int make(int root) {
            if (!isNode(root)) {
                return -2;
            }
            try {
                code = rowsOf(root, false);
                return code.size();
            } catch (IllegalStateException e) {
                code = new ArrayList<>();
                return -1;
            }
        }

        boolean fits(int root) {
            try {
                rowsOf(root, false);
                return true;
            } catch (IllegalStateException e) {
                return false;
            }
        }

        int place(int c, long sizes) {
            int[] cell = cells.get(c);
            BigInteger size = BigInteger.valueOf(size(cell));
            BigInteger place = BigInteger.valueOf(cell[2]).add(BigInteger.valueOf(sizes).multiply(size));
            if (place.signum() < 0 || place.add(size).compareTo(BigInteger.valueOf(64)) > 0) {
                throw new Raise(1);
            }
            return place.intValueExact();
        }

        long load(int c, long sizes) {
            int place = place(c, sizes);
            int[] cell = cells.get(c);
            StringBuilder text = new StringBuilder();
            boolean minus;
            if (cell[0] == 2) {
                byte[] four = java.util.Arrays.copyOfRange(bytes, place, place + 4);
                return new BigInteger(four).longValue();
            } else if (cell[0] == 0) {
                for (int i = 0; i < cell[1]; i++) {
                    text.append(Integer.parseInt(hex(place + i).substring(1), 16) % 10);
                }
                minus = (bytes[place + cell[1] - 1] >> 6 & 1) == 1;
            } else {
                StringBuilder halves = new StringBuilder();
                for (int i = 0; i < size(cell); i++) {
                    halves.append(hex(place + i));
                }
                int last = halves.length() - 1;
                for (int i = last - cell[1]; i < last; i++) {
                    text.append(Integer.parseInt(halves.substring(i, i + 1), 16) % 10);
                }
                minus = halves.charAt(last) == 'd';
            }
            long number = Long.parseLong(text.toString());
            return minus ? -number : number;
        }

        String hex(int place) {
            return String.format("%02x", bytes[place]);
        }

        void save(int c, long sizes, long number) {
            int place = place(c, sizes);
            count();
            int[] cell = cells.get(c);
            String text = "000000000" + BigInteger.valueOf(number).abs();
            text = text.substring(text.length() - cell[1]);
            boolean minus = number < 0 && Long.parseLong(text) != 0;
            if (cell[0] == 0) {
                for (int i = 0; i < cell[1]; i++) {
                    bytes[place + i] = (byte) text.charAt(i);
                }
                bytes[place + cell[1] - 1] += minus ? 64 : 0;
            } else if (cell[0] == 1) {
                String halves = (cell[1] % 2 == 0 ? "0" : "") + text + (minus ? "d" : "c");
                for (int i = 0; i < halves.length(); i += 2) {
                    bytes[place + i / 2] = (byte) Integer.parseInt(halves.substring(i, i + 2), 16);
                }
            } else {
                int kept = Integer.parseInt(text);
                java.nio.ByteBuffer.wrap(bytes).putInt(place, minus ? -kept : kept);
            }
        }

        void count() {
            if (++counts > 1000) {
                throw new Raise(3);
            }
        }

        long walk(int n) {
            int kind = nodes.get(n)[0];
            int a = nodes.get(n)[1];
            int b = nodes.get(n)[2];
            switch (kind) {
                case 0:
                    return a;
                case 1:
                    return load(a, 0);
                case 2:
                    return load(a, walk(b));
                case 9:
                    save(a, 0, walk(b));
                    return 0;
                case 10:
                    long sizes = walk(nodes.get(b)[1]);
                    save(a, sizes, walk(nodes.get(b)[2]));
                    return 0;
                case 11:
                    walk(a);
                    walk(b);
                    return 0;
                case 12:
                    if (walk(a) != 0) {
                        walk(b);
                    }
                    return 0;
                case 13:
                    long times = walk(a);
                    for (long i = 0; i < times; i++) {
                        count();
                        walk(b);
                    }
                    return 0;
                default:
                    long x = walk(a);
                    long y = walk(b);
                    if (kind == 6 && y == 0) {
                        throw new Raise(2);
                    }
                    return reckon(kind, x, y);
            }
        }

        /** Both ways come to be alike, so the model walks for both of them. */
        int run(boolean byCode, int root) {
            if (byCode ? make(root) < 0 : !isNode(root) || !fits(root)) {
                return 0;
            }
            int which = byCode ? 1 : 0;
            bytes = storages[which];
            counts = 0;
            raised[which] = 0;
            try {
                walk(root);
                return 1;
            } catch (Raise r) {
                raised[which] = r.why;
                return 2;
            }
        }

        int point(int wanted) {
            int seen = 0;
            for (int i = 0; i < code.size(); i++) {
                int op = code.get(i).op;
                if ((op == 9 || op == 10) && seen++ == wanted) {
                    return i;
                }
            }
            return -1;
        }
    }

    private static final int[] OUTCOMES = new int[6];
    // What is kept of an object's calls to read both storages, and both raises, at its end.
    private static final int CALLS_AT_END = 2 * 64 + 2;

    private static int someNumber(Random r) {
        return switch (r.nextInt(8)) {
            case 0 -> 0;
            case 1 -> 1;
            case 2 -> r.nextInt(7) - 3;
            case 3 -> r.nextInt(70);
            case 4 -> r.nextInt(1200);
            case 5 -> -r.nextInt(100000);
            case 6 -> r.nextInt();
            default -> r.nextInt(12);
        };
    }

    private static int someNode(Random r, Model m) {
        int most = m.nodes.size();
        if (r.nextInt(40) == 0) {
            return r.nextInt(4) == 0 ? r.nextInt() : r.nextInt(most + 3) - 1;
        }
        // The latest ones more often, so that trees grow high.
        int low = r.nextInt(3) == 0 ? 1 : Math.max(1, most - 12);
        return low >= most ? 1 : low + r.nextInt(most - low);
    }

    private static int someOf(Random r, Model m, boolean value) {
        int n = someNode(r, m);
        for (int i = 0; i < 6 && m.isValue(n) != value; i++) {
            n = someNode(r, m);
        }
        return n;
    }

    private static int oneNode(Model m, Calls x, int kind, int a, int b) {
        int got = x.node(kind, a, b);
        Due.is("node(" + kind + ", " + a + ", " + b + ")", got, m.node(kind, a, b));
        return got;
    }

    private static void newNode(Random r, Model m, Calls x) {
        int kind = r.nextInt(60) == 0 ? r.nextInt(20) - 3 : r.nextInt(14);
        boolean ofCell = kind == 1 || kind == 2 || kind == 9 || kind == 10;
        int a = someOf(r, m, kind != 11 || r.nextInt(3) == 0);
        int b = someOf(r, m, kind < 10 || kind >= 11 && r.nextInt(3) == 0);
        if (kind == 0) {
            a = someNumber(r);
        } else if (ofCell) {
            a = r.nextInt(30) == 0 ? r.nextInt(44) - 2 : r.nextInt(Math.max(1, m.cells.size()));
        }
        if (kind == 10 && r.nextInt(10) != 0) {
            b = oneNode(m, x, 11, someOf(r, m, true), someOf(r, m, true));
        }
        oneNode(m, x, kind, a, b);
    }

    private static void newCell(Random r, Model m, Calls x) {
        int usage = r.nextInt(12) == 0 ? r.nextInt(6) - 2 : r.nextInt(3);
        int digits = r.nextInt(12) == 0 ? r.nextInt(14) - 2 : 1 + r.nextInt(9);
        int place = r.nextInt(12) == 0 ? r.nextInt() : r.nextInt(66);
        Due.is("cell(" + usage + ", " + digits + ", " + place + ")", x.cell(usage, digits, place), m.cell(usage, digits, place));
    }

    private static void newByte(Random r, Model m, Calls x) {
        int place = r.nextInt(68) - 2;
        byte b = (byte) r.nextInt();
        boolean in = place >= 0 && place < 64;
        if (in) {
            m.storages[0][place] = b;
            m.storages[1][place] = b;
        }
        Due.is("put(" + place + ", " + b + ")", x.put(place, b), in ? 1 : -4);
    }

    private static void readRow(Model m, Calls x, int i) {
        boolean in = i >= 0 && i < m.code.size();
        Due.is("code(" + i + ", 0)", x.code(i, 0), in ? m.code.get(i).op : -1);
        Due.is("code(" + i + ", 1)", x.code(i, 1), in ? (int) m.code.get(i).number : -1);
        Due.is("fast(" + i + ")", x.fast(i), in && m.code.get(i).fast);
        Due.is("point(" + i + ")", x.point(i), m.point(i));
    }

    /** The first rows, the last ones, those just outside, and some between; not all, for the calls' sake. */
    private static void readCode(Random r, Model m, Calls x) {
        int count = m.code.size();
        int[] rows = {-1, 0, 1, r.nextInt(count + 1), r.nextInt(count + 1), count - 2, count - 1, count};
        for (int i : rows) {
            readRow(m, x, i);
        }
    }

    private static void readByte(Model m, Calls x, int place) {
        Due.is("at(false, " + place + ")", x.at(false, place), m.storages[0][place]);
        Due.is("at(true, " + place + ")", x.at(true, place), m.storages[1][place]);
    }

    private static void readRaises(Model m, Calls x) {
        Due.is("raised(false)", x.raised(false), m.raised[0]);
        Due.is("raised(true)", x.raised(true), m.raised[1]);
    }

    private static void runNode(Random r, Model m, Calls x, int root) {
        boolean byCode = r.nextBoolean();
        int want = m.run(byCode, root);
        OUTCOMES[want == 2 ? 2 + m.raised[byCode ? 1 : 0] : want]++;
        Due.is("run(" + byCode + ", " + root + ")", x.run(byCode, root), want);
        readRaises(m, x);
        readByte(m, x, r.nextInt(64));
    }

    /** One call that changes something, with a few that tell what it has changed. */
    private static void oneChange(Random r, Model m, Calls x) {
        int root = someNode(r, m);
        switch (r.nextInt(36)) {
            case 0, 1, 2:
                newCell(r, m, x);
                break;
            case 3, 4, 5:
                newByte(r, m, x);
                break;
            case 6:
                Due.is("make(" + root + ")", x.make(root), m.make(root));
                readCode(r, m, x);
                break;
            case 7:
                Due.is("same(" + root + ")", x.same(root), m.make(root) > 0);
                readRaises(m, x);
                break;
            case 8, 9, 10, 11, 12:
                runNode(r, m, x, root);
                break;
            default:
                newNode(r, m, x);
                break;
        }
    }

    private static void oneObject(int seed) {
        Random r = new Random(seed);
        Model m = new Model();
        Calls x = new Calls();
        for (int i = 0; i < 4; i++) {
            newCell(r, m, x);
        }
        // No change asks for more than a call and eight rows of four.
        while (x.left() > CALLS_AT_END + 40) {
            Due.sentence("seed " + seed + ", " + x.left() + " calls left");
            oneChange(r, m, x);
        }
        Due.sentence("seed " + seed + ", at the end");
        for (int place = 0; place < 64; place++) {
            readByte(m, x, place);
        }
        readRaises(m, x);
    }

    public static void main(String[] args) {
        for (int seed = 0; seed < OBJECTS && Due.wrong() == 0; seed++) {
            oneObject(seed);
        }
        System.out.println("runs: refused " + OUTCOMES[0] + ", ended " + OUTCOMES[1] + ", raised 1: "
            + OUTCOMES[3] + ", 2: " + OUTCOMES[4] + ", 3: " + OUTCOMES[5]);
        Due.sentence("every outcome of a run was met");
        for (int outcome : new int[] {0, 1, 3, 4, 5}) {
            Due.is("outcome " + outcome, OUTCOMES[outcome] > 0, true);
        }
        Due.end();
    }
}
