import java.nio.ByteBuffer;

/** For each sentence of the document's 'Terms' that names a boundary, a test of its own. */
public final class TermsTest {
    private static final int FILL = 85;
    private static final int ZONED = 0;
    private static final int PACKED = 1;
    private static final int BINARY = 2;
    private static final long[] FAR = {
        1 << 20, 1L << 31, 1L << 32, 1L << 58, 1L << 60, 1L << 61, 1L << 62, 3L << 61, Long.MAX_VALUE};

    private static int sizeOf(int usage, int digits) {
        int[] packed = {0, 1, 2, 2, 3, 3, 4, 4, 5, 5};
        return usage == ZONED ? digits : usage == PACKED ? packed[digits] : 4;
    }

    // ---- storages and cells

    private static void storages() {
        Due.sentence("two storages of 64 bytes");
        Calls x = new Calls();
        for (boolean code : new boolean[] {false, true}) {
            Due.is("-1 is outside", x.thrownAt(code, -1), "ArrayIndexOutOfBoundsException");
            Due.is("0 is inside", x.thrownAt(code, 0), "");
            Due.is("63 is inside", x.thrownAt(code, 63), "");
            Due.is("64 is outside", x.thrownAt(code, 64), "ArrayIndexOutOfBoundsException");
        }
        int store = x.node(9, x.cell(ZONED, 1, 63), x.number(7));
        x.run(false, store);
        Due.is("the walk's, walked", x.at(false, 63), 55);
        Due.is("the code's, not run", x.at(true, 63), 0);
        int other = x.node(9, x.cell(ZONED, 1, 0), x.number(8));
        x.run(true, other);
        Due.is("the code's, run", x.at(true, 0), 56);
        Due.is("the walk's, not walked", x.at(false, 0), 0);

        Due.sentence("storages are 0 at first");
        Calls y = new Calls();
        for (int place = 0; place < 64; place++) {
            Due.is("at(false, " + place + ")", y.at(false, place), 0);
            Due.is("at(true, " + place + ")", y.at(true, place), 0);
        }
    }

    private static void cellNumbers() {
        Due.sentence("cells are numbered from 0 on");
        Calls x = new Calls();
        Due.is("the first cell", x.cell(ZONED, 1, 0), 0);
        Due.is("the second cell", x.cell(ZONED, 1, 0), 1);

        Due.sentence("at most 40 cells");
        for (int i = 2; i < 39; i++) {
            Due.is("a cell behind " + i, x.cell(i % 3, 9, i), i);
        }
        Due.is("a cell behind 39", x.cell(PACKED, 9, 59), 39);
        Due.is("a cell behind 40", x.cell(ZONED, 1, 0), -1);
        Due.is("once more", x.cell(ZONED, 1, 0), -1);
        Due.is("a node of the 40th", x.says(39), 1);
        Due.is("a node of a 41st", x.says(40), -2);
    }

    private static void cellDigits() {
        Due.sentence("1 .. 9 digits");
        for (int usage = ZONED; usage <= BINARY; usage++) {
            Calls x = new Calls();
            String what = " digits of usage " + usage;
            Due.is("0" + what, x.cell(usage, 0, 0), -4);
            Due.is("1" + what, x.cell(usage, 1, 0), 0);
            Due.is("2" + what, x.cell(usage, 2, 0), 1);
            Due.is("8" + what, x.cell(usage, 8, 0), 2);
            Due.is("9" + what, x.cell(usage, 9, 0), 3);
            Due.is("10" + what, x.cell(usage, 10, 0), -4);
        }
    }

    private static void sizesAtTheEnd(int usage) {
        for (int digits = 1; digits <= 9; digits++) {
            Calls x = new Calls();
            int last = 64 - sizeOf(usage, digits);
            String what = digits + " digits of usage " + usage + " at ";
            Due.is(what + (last - 1), x.cell(usage, digits, last - 1), 0);
            Due.is(what + last, x.cell(usage, digits, last), 1);
            Due.is(what + (last + 1), x.cell(usage, digits, last + 1), -4);
        }
    }

    /** Stores 7 one size behind a cell at 20, so that the cell's size is seen in its own bytes. */
    private static void sizesInTheMiddle(int usage) {
        for (int digits = 1; digits <= 9; digits++) {
            Calls x = new Calls();
            for (int place = 20; place < 40; place++) {
                x.put(place, FILL);
            }
            int size = sizeOf(usage, digits);
            int cell = x.cell(usage, digits, 20);
            String what = digits + " digits of usage " + usage;
            Due.is(what, x.both(x.storeBehind(cell, x.number(1), x.number(7))), 0);
            Due.is(what + ", ahead of it", x.byteOnBoth(20 + size - 1), FILL);
            Due.is(what + ", its first byte", x.byteOnBoth(20 + size) != FILL, true);
            Due.is(what + ", its last byte", x.byteOnBoth(20 + 2 * size - 1) != FILL, true);
            Due.is(what + ", behind it", x.byteOnBoth(20 + 2 * size), FILL);
        }
    }

    private static void reads(int usage, int digits, long want, int... given) {
        Calls x = new Calls();
        for (int i = 0; i < given.length; i++) {
            x.put(i, given[i]);
        }
        int cell = x.cell(usage, digits, 0);
        int answer = x.cell(ZONED, 1, 63);
        String what = digits + " digits of usage " + usage + ", first byte " + given[0] + ", say " + want;
        Due.is(what, x.both(x.node(9, answer, x.node(8, x.says(cell), x.whole(want)))), 0);
        Due.is(what, x.byteOnBoth(63), 49);
    }

    private static void zonedReading() {
        Due.sentence("usage 0: as many bytes as digits");
        sizesAtTheEnd(ZONED);
        sizesInTheMiddle(ZONED);
        reads(ZONED, 1, 1, 49, 50, 51);
        reads(ZONED, 2, 12, 49, 50, 51);
        reads(ZONED, 9, 123456789, 49, 50, 51, 52, 53, 54, 55, 56, 57);
        reads(ZONED, 9, -999999999, 57, 57, 57, 57, 57, 57, 57, 57, 121);

        Due.sentence("usage 0: each its lowest four bits modulo 10");
        int[] digits = {0, 1, 2, 3, 4, 5, 6, 7, 8, 9, 0, 1, 2, 3, 4, 5};
        for (int low = 0; low < 16; low++) {
            reads(ZONED, 1, digits[low], 48 + low);
            reads(ZONED, 1, digits[low], 128 + low);
            reads(ZONED, 2, digits[low] * 10 + 1, low, 1);
            reads(ZONED, 2, digits[low] * 10 + 1, 240 + low, 1);
        }

        Due.sentence("usage 0: negative if the last one has 64");
        reads(ZONED, 1, 5, 63);
        reads(ZONED, 1, -1, 65);
        reads(ZONED, 1, -5, 127);
        reads(ZONED, 1, 1, 129);
        reads(ZONED, 1, 5, 191);
        reads(ZONED, 1, -1, 193);
        reads(ZONED, 1, -5, 255);
        reads(ZONED, 1, 0, 64);
        reads(ZONED, 2, 12, 113, 50);
        reads(ZONED, 2, -12, 49, 114);
        reads(ZONED, 3, 123, 49, 114, 51, 64);
    }

    private static void packedReading() {
        Due.sentence("usage 1: digits / 2 + 1 bytes");
        sizesAtTheEnd(PACKED);
        sizesInTheMiddle(PACKED);
        reads(PACKED, 1, 1, 0x1c, 0x2d);
        reads(PACKED, 9, -123456789, 0x12, 0x34, 0x56, 0x78, 0x9d);
        reads(PACKED, 8, 23456789, 0x12, 0x34, 0x56, 0x78, 0x9c);

        Due.sentence("usage 1: the last half a sign (13 negative)");
        for (int sign = 0; sign < 16; sign++) {
            reads(PACKED, 1, sign == 13 ? -7 : 7, 0x70 + sign);
            reads(PACKED, 4, sign == 13 ? -2345 : 2345, 0xd2, 0x34, 0x50 + sign);
        }
        reads(PACKED, 1, 0, 0x0d);
        reads(PACKED, 3, 133, 0x1d, 0x3c);

        Due.sentence("usage 1: the other halves modulo 10");
        int[] digits = {0, 1, 2, 3, 4, 5, 6, 7, 8, 9, 0, 1, 2, 3, 4, 5};
        for (int half = 0; half < 16; half++) {
            reads(PACKED, 3, digits[half] * 100 + 12, half << 4 | 1, 0x2c);
            reads(PACKED, 3, digits[half] * 10 + 102, 0x10 | half, 0x2c);
            reads(PACKED, 3, digits[half] + 120, 0x12, half << 4 | 12);
        }

        Due.sentence("usage 1: the first half not counting when digits are even");
        for (int first = 0; first < 16; first++) {
            reads(PACKED, 2, 23, first << 4 | 2, 0x3c);
            reads(PACKED, 8, -10000009, first << 4 | 1, 0x00, 0x00, 0x00, 0x9d);
        }
        reads(PACKED, 1, 1, 0x1c);
        reads(PACKED, 3, 123, 0x12, 0x3c);
        reads(PACKED, 9, 900000000, 0x90, 0x00, 0x00, 0x00, 0x0c);
    }

    private static void binaryReading() {
        Due.sentence("usage 2: four bytes");
        sizesAtTheEnd(BINARY);
        sizesInTheMiddle(BINARY);

        Due.sentence("usage 2: the highest first, as a complement of two");
        for (int digits : new int[] {1, 9}) {
            reads(BINARY, digits, 0, 0, 0, 0, 0);
            reads(BINARY, digits, 1, 0, 0, 0, 1);
            reads(BINARY, digits, 0x01020304, 1, 2, 3, 4);
            reads(BINARY, digits, 255, 0, 0, 0, 255);
            reads(BINARY, digits, 0x80808080, 128, 128, 128, 128);
            reads(BINARY, digits, 2147483646, 127, 255, 255, 254);
            reads(BINARY, digits, 2147483647, 127, 255, 255, 255);
            reads(BINARY, digits, -2147483648, 128, 0, 0, 0);
            reads(BINARY, digits, -2147483647, 128, 0, 0, 1);
            reads(BINARY, digits, -2, 255, 255, 255, 254);
            reads(BINARY, digits, -1, 255, 255, 255, 255);
        }
    }

    // ---- storing

    /** The bytes of a number of so many digits, as the document tells them. */
    private static int[] bytesOf(int usage, String digits, boolean minus) {
        int[] bytes = new int[sizeOf(usage, digits.length())];
        if (usage == ZONED) {
            for (int i = 0; i < bytes.length; i++) {
                bytes[i] = digits.charAt(i);
            }
            bytes[bytes.length - 1] += minus ? 64 : 0;
        } else if (usage == PACKED) {
            String halves = (digits.length() % 2 == 0 ? "0" : "") + digits + (minus ? "d" : "c");
            for (int i = 0; i < bytes.length; i++) {
                bytes[i] = Integer.parseInt(halves.substring(2 * i, 2 * i + 2), 16);
            }
        } else {
            int number = Integer.parseInt((minus ? "-" : "") + digits);
            byte[] four = ByteBuffer.allocate(4).putInt(number).array();
            for (int i = 0; i < 4; i++) {
                bytes[i] = four[i];
            }
        }
        return bytes;
    }

    private static void stores(int usage, long value, String digits, boolean minus) {
        Calls x = new Calls();
        int size = sizeOf(usage, digits.length());
        StringBuilder want = new StringBuilder().append(FILL);
        for (int b : bytesOf(usage, digits, minus)) {
            want.append(' ').append((byte) b);
        }
        want.append(' ').append(FILL);
        for (int place = 9; place < 11 + size; place++) {
            x.put(place, FILL);
        }
        int cell = x.cell(usage, digits.length(), 10);
        String what = value + " in " + digits.length() + " digits of usage " + usage;
        Due.is(what, x.both(x.node(9, cell, x.whole(value))), 0);
        Due.is(what, x.bytesOnBoth(9, size + 2), want.toString());
    }

    private static void storing(int usage) {
        String zeros = "000000000";
        String nines = "999999999";
        long top = 1;
        for (int digits = 1; digits <= 9; digits++) {
            top *= 10;
            String none = zeros.substring(9 - digits);
            String one = zeros.substring(10 - digits) + "1";
            String most = nines.substring(9 - digits);
            String lessThanMost = nines.substring(10 - digits) + "8";

            Due.sentence("usage " + usage + " storing: its lowest digits, as many as the cell has");
            stores(usage, 1, one, false);
            stores(usage, top - 2, lessThanMost, false);
            stores(usage, top - 1, most, false);
            stores(usage, top, none, false);
            stores(usage, top + 1, one, false);
            stores(usage, 5 * top - 1, most, false);

            Due.sentence("usage " + usage + " storing: with its sign");
            stores(usage, -1, one, true);
            stores(usage, -(top - 1), most, true);
            stores(usage, -(top + 1), one, true);
            stores(usage, -(top * 10 - 1), most, true);

            Due.sentence("usage " + usage + " storing: zero without sign");
            stores(usage, 0, none, false);
            stores(usage, -top, none, false);
            stores(usage, -7 * top, none, false);
        }
        Due.sentence("usage " + usage + " storing: the most and the least of 64 bits");
        stores(usage, Long.MAX_VALUE, "854775807", false);
        stores(usage, Long.MIN_VALUE, "854775808", true);
        stores(usage, Long.MIN_VALUE + 1, "854775807", true);
        stores(usage, Long.MIN_VALUE, "8", true);
        stores(usage, 1L << 31, "147483648", false);
        stores(usage, -(1L << 32), "294967296", true);
    }

    private static void storesOver(int usage, int before, String digits, boolean minus, String want) {
        Calls x = new Calls();
        for (int i = 0; i < 9; i++) {
            x.put(i, before);
        }
        int value = Integer.parseInt((minus ? "-" : "") + digits);
        int cell = x.cell(usage, digits.length(), 0);
        Due.is(value + " over bytes of " + before, x.both(x.node(9, cell, x.number(value))), 0);
        Due.is(value + " over bytes of " + before, x.bytesOnBoth(0, sizeOf(usage, digits.length())), want);
    }

    private static void storingBytes() {
        Due.sentence("usage 0 storing: bytes 48 .. 57, the last one 64 more for a negative one");
        for (int before : new int[] {0, 64, 255}) {
            storesOver(ZONED, before, "09", false, "48 57");
            storesOver(ZONED, before, "90", true, "57 112");
            storesOver(ZONED, before, "09", true, "48 121");
            storesOver(ZONED, before, "00", false, "48 48");
        }
        Due.sentence("usage 1 storing: sign half 12 or 13");
        for (int before : new int[] {0, 13, 255}) {
            storesOver(PACKED, before, "9", false, "-100");
            storesOver(PACKED, before, "9", true, "-99");
            storesOver(PACKED, before, "0", false, "12");
            storesOver(PACKED, before, "901", true, "-112 29");
        }
        Due.sentence("usage 1 storing: an uncounted first half 0");
        for (int before : new int[] {0, 0xa0, 255}) {
            storesOver(PACKED, before, "99", false, "9 -100");
            storesOver(PACKED, before, "99", true, "9 -99");
            storesOver(PACKED, before, "00", false, "0 12");
            storesOver(PACKED, before, "99999999", true, "9 -103 -103 -103 -99");
        }
        Due.sentence("usage 2 storing: as a number");
        for (int before : new int[] {0, 255}) {
            storesOver(BINARY, before, "0", false, "0 0 0 0");
            storesOver(BINARY, before, "9", true, "-1 -1 -1 -9");
            storesOver(BINARY, before, "999999999", false, "59 -102 -55 -1");
            storesOver(BINARY, before, "999999999", true, "-60 101 54 1");
        }
    }

    // ---- nodes

    private static void nodeNumbers() {
        Due.sentence("nodes are numbered from 1 on");
        Calls x = new Calls();
        Due.is("the first node", x.number(5), 1);
        Due.is("the second node", x.number(5), 2);

        Due.sentence("at most 200 nodes");
        for (int i = 3; i < 200; i++) {
            Due.is("a node behind " + (i - 1), x.number(i), i);
        }
        Due.is("a node behind 199", x.number(1), 200);
        Due.is("a node behind 200", x.number(1), -1);
        Due.is("once more", x.number(1), -1);
        Due.is("the 200th is there", x.make(200), 1);
        Due.is("a 201st is not", x.make(201), -2);
    }

    /**
     * What a kind gives of two numbers, folded; then with one side, the other one, and both of them
     * not folded.
     */
    private static void gives(int kind, long first, long second, long want) {
        for (int unfolded = 0; unfolded < 4; unfolded++) {
            Calls x = new Calls();
            int zero = x.says(x.cell(ZONED, 1, 0));
            int answer = x.cell(ZONED, 1, 63);
            int a = x.whole(first);
            int b = x.whole(second);
            a = (unfolded & 1) == 0 ? a : x.node(3, a, zero);
            b = (unfolded & 2) == 0 ? b : x.node(3, b, zero);
            int node = x.node(kind, a, b);
            String what = "kind " + kind + " of " + first + " and " + second + " is " + want;
            Due.is(what, x.make(node) == 1, unfolded == 0);
            Due.is(what, x.both(x.node(9, answer, x.node(8, node, x.whole(want)))), 0);
            Due.is(what, x.byteOnBoth(63), 49);
        }
    }

    private static void roundSixtyFourBits() {
        long most = Long.MAX_VALUE;
        long least = Long.MIN_VALUE;
        Due.sentence("a + b going round 64 bits");
        gives(3, 2147483647, 1, 2147483648L);
        gives(3, most - 1, 1, most);
        gives(3, most, 0, most);
        gives(3, most, 1, least);
        gives(3, least, -1, most);
        gives(3, least, least, 0);
        gives(3, most, most, -2);

        Due.sentence("a - b going round 64 bits");
        gives(4, -2147483648, 1, -2147483649L);
        gives(4, 3, 5, -2);
        gives(4, least + 1, 1, least);
        gives(4, least, 1, most);
        gives(4, most, -1, least);
        gives(4, 0, least, least);
        gives(4, -1, least, most);

        Due.sentence("a * b going round 64 bits");
        gives(5, 1L << 31, 2, 1L << 32);
        gives(5, (1L << 62) - 1, 2, most - 1);
        gives(5, 1L << 62, 2, least);
        gives(5, -(1L << 62), 2, least);
        gives(5, 1L << 32, 1L << 32, 0);
        gives(5, least, -1, least);
        gives(5, most, most, 1);
        gives(5, most, 2, -2);

        Due.sentence("a / b, whole part, going round 64 bits");
        gives(6, 7, 2, 3);
        gives(6, -7, 2, -3);
        gives(6, 7, -2, -3);
        gives(6, -7, -2, 3);
        gives(6, 1, 2, 0);
        gives(6, -1, 2, 0);
        gives(6, 2, 2, 1);
        gives(6, 0, -5, 0);
        gives(6, least, 1, least);
        gives(6, least + 1, -1, most);
        gives(6, least, -1, least);
        gives(6, most, -1, -most);
        gives(6, most, 1L << 32, 2147483647);
    }

    private static void comparing() {
        long most = Long.MAX_VALUE;
        long least = Long.MIN_VALUE;
        Due.sentence("7: 1 if a is less than b, else 0");
        gives(7, 4, 5, 1);
        gives(7, 5, 5, 0);
        gives(7, 6, 5, 0);
        gives(7, -1, 0, 1);
        gives(7, 0, -1, 0);
        gives(7, least, most, 1);
        gives(7, most, least, 0);
        gives(7, least, 1, 1);
        gives(7, 1, least, 0);
        gives(7, 1L << 32, 1, 0);
        gives(7, least, least, 0);

        Due.sentence("8: 1 if they are equal, else 0");
        gives(8, 4, 5, 0);
        gives(8, 5, 5, 1);
        gives(8, 6, 5, 0);
        gives(8, 5, -5, 0);
        gives(8, 1L << 32, 0, 0);
        gives(8, least, least, 1);
        gives(8, least, most, 0);
        gives(8, most, most, 1);
    }

    private static void numbers() {
        Due.sentence("0: a number a");
        for (int value : new int[] {Integer.MIN_VALUE, Integer.MIN_VALUE + 1, -1, 0, 1, Integer.MAX_VALUE}) {
            Calls x = new Calls();
            int answer = x.cell(BINARY, 9, 0);
            int number = x.number(value);
            Due.is("its row", x.rows(number), "0," + value);
            Due.is("stored", x.both(x.node(9, answer, number)), 0);
            int kept = value % 1000000000;
            Due.is("its lowest byte", x.byteOnBoth(3), (byte) kept);
            Due.is("its highest byte", x.byteOnBoth(0), (byte) (kept >> 24));
        }
    }

    private static void ifs() {
        Due.sentence("12: if node a isn't 0, node b");
        long[] values = {0, 1, -1, 2, 10, 256, 1L << 32, -(1L << 32), Long.MIN_VALUE, Long.MAX_VALUE};
        for (long value : values) {
            Calls x = new Calls();
            int store = x.node(9, x.cell(ZONED, 1, 0), x.number(1));
            int unfolded = x.node(3, x.whole(value), x.says(x.cell(ZONED, 1, 1)));
            Due.is("12 of " + value, x.both(x.node(12, x.whole(value), store)), 0);
            Due.is("12 of " + value + " stored", x.byteOnBoth(0), value == 0 ? 0 : 49);
            x.put(0, 0);
            Due.is("12 of " + value + ", not folded", x.both(x.node(12, unfolded, store)), 0);
            Due.is("12 of " + value + ", not folded, stored", x.byteOnBoth(0), value == 0 ? 0 : 49);
        }
    }

    private static void loops() {
        Due.sentence("13: so many times as node a says, node b");
        int[][] cases = {{-2, 0}, {-1, 0}, {0, 0}, {1, 1}, {2, 2}, {3, 3}, {99, 99}, {500, 500}, {Integer.MIN_VALUE, 0}};
        for (int[] c : cases) {
            Calls x = new Calls();
            int cell = x.cell(BINARY, 9, 0);
            int plus = x.node(9, cell, x.node(3, x.says(cell), x.number(1)));
            Due.is(c[0] + " times", x.both(x.times(c[0], plus)), 0);
            Due.is(c[0] + " times", x.byteOnBoth(2) * 256 + (x.byteOnBoth(3) & 255), c[1]);
        }
        for (long value : new long[] {Long.MIN_VALUE, -(1L << 32) + 1, 1L << 32, (1L << 32) + 1, 1L << 62, Long.MAX_VALUE}) {
            Calls x = new Calls();
            int store = x.node(9, x.cell(ZONED, 1, 0), x.number(1));
            Due.is(value + " times", x.both(x.node(13, x.whole(value), store)), value < 0 ? 0 : 3);
            Due.is(value + " times stored", x.byteOnBoth(0), value < 0 ? 0 : 49);
        }
        Calls x = new Calls();
        int times = x.cell(ZONED, 1, 0);
        int count = x.cell(ZONED, 1, 1);
        x.put(0, 51);
        int plus = x.node(9, count, x.node(3, x.says(count), x.number(1)));
        int body = x.node(11, x.node(9, times, x.number(9)), plus);
        Due.is("a says so once, ahead of all", x.both(x.node(13, x.says(times), body)), 0);
        Due.is("3 times", x.byteOnBoth(1), 51);
    }

    private static void sequences() {
        Due.sentence("11: node a, then node b");
        Calls x = new Calls();
        int cell = x.cell(ZONED, 1, 0);
        int one = x.node(9, cell, x.number(1));
        int two = x.node(9, cell, x.number(2));
        Due.is("1, then 2", x.both(x.node(11, one, two)), 0);
        Due.is("2 is left", x.byteOnBoth(0), 50);
        Due.is("2, then 1", x.both(x.node(11, two, one)), 0);
        Due.is("1 is left", x.byteOnBoth(0), 49);

        Due.sentence("11 within 10 is no statement there, its sides are what is asked, the first one first");
        int outside = x.node(2, cell, x.number(64));
        int byZero = x.node(6, x.number(1), x.number(0));
        Due.is("its rows", x.rows(x.storeBehind(cell, x.number(5), x.number(6))), "0,5 0,6 10,0");
        Due.is("outside, by zero", x.both(x.storeBehind(cell, outside, byZero)), 1);
        Due.is("by zero, outside", x.both(x.storeBehind(cell, byZero, outside)), 2);
        Due.is("a place outside, by zero", x.both(x.storeBehind(cell, x.number(64), byZero)), 2);
        int pair = x.node(11, x.number(1), x.number(3));
        Due.is("the same 11 as a statement", x.rows(pair), "0,1 15,0 0,3 15,0");
        Due.is("the same 11 within 10", x.rows(x.node(10, cell, pair)), "0,1 0,3 10,0");
        Due.is("place 1 gets 3", x.both(x.node(10, cell, pair)), 0);
        Due.is("place 1 has 3", x.bytesOnBoth(0, 3), "49 51 0");
    }

    // ---- what raises a run

    /** Reads and stores so many sizes behind; by each of them 0 when inside, else raised by 1. */
    private static void stands(int usage, int digits, int place, long sizes, boolean inside) {
        Calls x = new Calls();
        int cell = x.cell(usage, digits, place);
        int zero = x.says(x.cell(ZONED, 1, 0));
        int behind = x.whole(sizes);
        String what = digits + " digits of usage " + usage + " at " + place + ", " + sizes + " behind";
        int due = inside ? 0 : 1;
        Due.is(what + ", read", x.both(x.node(2, cell, behind)), due);
        Due.is(what + ", not folded, read", x.both(x.node(2, cell, x.node(3, behind, zero))), due);
        Due.is(what + ", stored", x.both(x.storeBehind(cell, behind, x.number(7))), due);
        if (!inside) {
            Due.is(what + ", nothing stored", x.bytesOnBoth(0, 64), "0" + " 0".repeat(63));
        }
    }

    private static void outside() {
        Due.sentence("raised by 1: a cell that would stand outside the storage");
        int[][] starts = {{ZONED, 1, 0, 0}, {ZONED, 1, 63, -63}, {ZONED, 3, 4, -1}, {ZONED, 9, 9, -1}, {ZONED, 9, 55, -6},
            {PACKED, 1, 1, -1}, {PACKED, 4, 61, -20}, {PACKED, 9, 59, -11}, {BINARY, 9, 60, -15}, {BINARY, 1, 59, -14}};
        for (int[] s : starts) {
            stands(s[0], s[1], s[2], s[3], true);
            stands(s[0], s[1], s[2], s[3] - 1, false);
        }
        Due.sentence("raised by 1: a cell that would end outside the storage");
        int[][] ends = {{ZONED, 1, 0, 63}, {ZONED, 1, 63, 0}, {ZONED, 8, 0, 7}, {ZONED, 9, 0, 6}, {ZONED, 9, 55, 0},
            {PACKED, 1, 0, 63}, {PACKED, 4, 1, 20}, {PACKED, 9, 3, 11}, {BINARY, 9, 0, 15}, {BINARY, 1, 1, 14}};
        for (int[] e : ends) {
            stands(e[0], e[1], e[2], e[3], true);
            stands(e[0], e[1], e[2], e[3] + 1, false);
        }
        Due.sentence("raised by 1: a cell far outside, also where its place would go round");
        for (long sizes : FAR) {
            stands(ZONED, 1, 0, sizes, false);
            stands(ZONED, 8, 8, sizes, false);
            stands(BINARY, 9, 0, sizes, false);
            stands(BINARY, 9, 60, -sizes, false);
            stands(PACKED, 6, 0, -sizes, false);
        }
        stands(BINARY, 9, 0, Long.MIN_VALUE, false);
        stands(ZONED, 2, 0, Long.MIN_VALUE, false);
    }

    private static void ownSizes() {
        Due.sentence("2 and 10: so many of its own sizes behind");
        for (int usage = ZONED; usage <= BINARY; usage++) {
            for (int digits = 1; digits <= 9; digits++) {
                for (int sizes = -2; sizes <= 2; sizes++) {
                    Calls x = new Calls();
                    int size = sizeOf(usage, digits);
                    int cell = x.cell(usage, digits, 20);
                    int there = x.cell(usage, digits, 20 + sizes * size);
                    int answer = x.cell(ZONED, 1, 0);
                    String what = digits + " digits of usage " + usage + ", " + sizes + " behind";
                    x.run(false, x.node(9, there, x.number(7)));
                    x.run(true, x.node(9, there, x.number(7)));
                    int read = x.node(2, cell, x.number(sizes));
                    Due.is(what, x.both(x.node(9, answer, read)), 0);
                    Due.is(what + " read", x.byteOnBoth(0), 55);
                    Due.is(what, x.both(x.storeBehind(cell, x.number(sizes), x.number(-4))), 0);
                    Due.is(what, x.both(x.node(9, answer, x.says(there))), 0);
                    Due.is(what + " stored", x.byteOnBoth(0), 116);
                }
            }
        }
    }

    private static void divisionByZero() {
        Due.sentence("raised by 2: a division by zero");
        long[] divisors = {-1, 0, 1, 1L << 32, Long.MIN_VALUE};
        for (long divisor : divisors) {
            for (long divided : new long[] {0, 1, -5, Long.MIN_VALUE}) {
                Calls x = new Calls();
                int zero = x.says(x.cell(ZONED, 1, 0));
                int a = x.whole(divided);
                int b = x.whole(divisor);
                int due = divisor == 0 ? 2 : 0;
                String what = divided + " / " + divisor;
                Due.is(what, x.both(x.node(6, a, b)), due);
                Due.is(what + ", b not folded", x.both(x.node(6, a, x.node(3, b, zero))), due);
                Due.is(what + ", a not folded", x.both(x.node(6, x.node(3, a, zero), b)), due);
            }
        }
        Calls x = new Calls();
        int cell = x.cell(ZONED, 2, 0);
        x.put(1, 64);
        Due.is("by a zero that has a sign", x.both(x.node(6, x.number(1), x.says(cell))), 2);
    }

    /** Counts so many by a loop of a value, ahead of a node. */
    private static int behind(Calls x, int counts, int node) {
        return x.node(11, x.times(counts, x.number(0)), node);
    }

    private static void countsOfLoops() {
        Due.sentence("raised by 3: more than 1000 counts, of a loop's times");
        Calls x = new Calls();
        int zero = x.number(0);
        Due.is("999 times", x.both(x.times(999, zero)), 0);
        Due.is("1000 times", x.both(x.times(1000, zero)), 0);
        Due.is("1001 times", x.both(x.times(1001, zero)), 3);
        Due.is("999 and 1 times", x.both(behind(x, 999, x.times(1, zero))), 0);
        Due.is("1000 and 0 times", x.both(behind(x, 1000, x.times(0, zero))), 0);
        Due.is("1000 and 1 times", x.both(behind(x, 1000, x.times(1, zero))), 3);
        Due.is("10 times 99 and itself: 1000", x.both(x.times(10, x.times(99, zero))), 0);
        Due.is("10 times 99 and itself, and 1 more", x.both(x.node(11, x.times(10, x.times(99, zero)), x.times(1, zero))), 3);
        Due.is("7 times 142 and itself: 1001", x.both(x.times(7, x.times(142, zero))), 3);
        Due.is("1000 times no times", x.both(x.times(1000, x.times(0, zero))), 0);
        Due.is("1000 times 12 of 0", x.both(x.times(1000, x.node(12, zero, x.times(1, zero)))), 0);

        Due.sentence("a loop's time counts ahead of its node");
        int byZero = x.node(6, zero, zero);
        Due.is("the 1000th of a division by zero", x.both(behind(x, 999, x.times(1, byZero))), 2);
        Due.is("the 1001st of a division by zero", x.both(behind(x, 1000, x.times(1, byZero))), 3);
        int outside = x.node(2, x.cell(ZONED, 1, 0), x.number(64));
        Due.is("the 1000th of a cell outside", x.both(behind(x, 999, x.times(1, outside))), 1);
        Due.is("the 1001st of a cell outside", x.both(behind(x, 1000, x.times(1, outside))), 3);
        Due.is("a times by zero is ahead of all", x.both(behind(x, 1000, x.node(13, byZero, zero))), 2);
    }

    private static void countsOfStorings() {
        Due.sentence("raised by 3: more than 1000 counts, each storing counts one");
        Calls x = new Calls();
        int cell = x.cell(ZONED, 4, 0);
        int plus = x.node(9, cell, x.node(3, x.says(cell), x.number(1)));
        int plusBehind = x.storeBehind(cell, x.number(0), x.node(3, x.says(cell), x.number(1)));
        Due.is("499 times: 998", x.both(x.times(499, plus)), 0);
        Due.is("499 stored", x.bytesOnBoth(0, 4), "48 52 57 57");
        Due.is("500 times: 1000", x.both(x.times(500, plusBehind)), 0);
        Due.is("500 stored", x.bytesOnBoth(0, 4), "48 57 57 57");
        Due.is("501 times: 1002", x.both(x.times(501, plus)), 3);
        Due.is("500 stored", x.bytesOnBoth(0, 4), "49 52 57 57");
        Due.is("501 times: 1002, by 10", x.both(x.times(501, plusBehind)), 3);
        Due.is("500 stored", x.bytesOnBoth(0, 4), "49 57 57 57");
        Due.is("333 times of three, and 1 more: 1000", x.both(x.node(11, x.times(333, x.node(11, plus, plusBehind)), plus)), 0);
        Due.is("667 stored", x.bytesOnBoth(0, 4), "50 54 54 54");

        Due.sentence("a storing counts ahead of it");
        x = new Calls();
        cell = x.cell(ZONED, 1, 0);
        int store = x.node(9, cell, x.number(1));
        int storeBehind = x.storeBehind(cell, x.number(1), x.number(1));
        Due.is("the 1001st by 9", x.both(behind(x, 1000, store)), 3);
        Due.is("the 1001st by 10", x.both(behind(x, 1000, storeBehind)), 3);
        Due.is("neither is stored", x.bytesOnBoth(0, 2), "0 0");
        Due.is("the 1000th by 9", x.both(behind(x, 999, store)), 0);
        Due.is("the 1000th by 10", x.both(behind(x, 999, storeBehind)), 0);
        Due.is("both are stored", x.bytesOnBoth(0, 2), "49 49");

        Due.sentence("a storing counts when it comes to store");
        int byZero = x.node(6, x.number(1), x.number(0));
        Due.is("a value by zero, 1001st", x.both(behind(x, 1000, x.node(9, cell, byZero))), 2);
        Due.is("a value by zero, 1001st by 10", x.both(behind(x, 1000, x.storeBehind(cell, x.number(0), byZero))), 2);
        Due.is("a place by zero, 1001st by 10", x.both(behind(x, 1000, x.storeBehind(cell, byZero, x.number(0)))), 2);
        Due.is("one that is not come to", x.both(behind(x, 1000, x.node(12, x.number(0), store))), 0);
        Due.is("reading does not count", x.both(behind(x, 1000, x.node(2, cell, x.says(cell)))), 0);

        Due.sentence("1 ahead of the count");
        int outside = x.storeBehind(cell, x.number(64), x.number(1));
        Due.is("the 1000th outside", x.both(behind(x, 999, outside)), 1);
        Due.is("the 1001st outside", x.both(behind(x, 1000, outside)), 1);
        Due.is("the 1001st ahead of the storage", x.both(behind(x, 1000, x.storeBehind(cell, x.number(-1), x.number(1)))), 1);
    }

    private static void countsOfARun() {
        Due.sentence("a run has counts of its own");
        Calls x = new Calls();
        int loop = x.times(1000, x.number(0));
        int over = x.times(1001, x.number(0));
        int store = x.node(9, x.cell(ZONED, 1, 0), x.number(1));
        Due.is("1000", x.both(loop), 0);
        Due.is("1000 again", x.both(loop), 0);
        Due.is("1 more", x.both(store), 0);
        Due.is("1001", x.both(over), 3);
        Due.is("1 behind a raised run", x.both(store), 0);
    }

    private static void storedStays() {
        Due.sentence("what was stored stays");
        for (int why = 1; why <= 3; why++) {
            Calls x = new Calls();
            int first = x.cell(ZONED, 1, 0);
            int second = x.cell(ZONED, 1, 1);
            x.put(1, FILL);
            int zero = x.number(0);
            int raise = why == 1 ? x.node(2, first, x.number(64))
                : why == 2 ? x.node(6, zero, zero) : x.times(1001, zero);
            int before = x.node(9, first, x.number(1));
            int after = x.node(9, second, x.number(1));
            Due.is("raised between two storings", x.both(x.node(11, before, x.node(11, raise, after))), why);
            Due.is("the first one alone", x.bytesOnBoth(0, 2), "49 " + FILL);
            x.put(0, 0);
            Due.is("raised within a loop", x.both(x.times(3, x.node(11, before, x.node(11, raise, after)))), why);
            Due.is("the first one alone", x.bytesOnBoth(0, 2), "49 " + FILL);
        }
    }

    // ---- code

    private static void plainRows() {
        Due.sentence("rows of an op and a number, one behind the other");
        Calls x = new Calls();
        int cell = x.cell(ZONED, 1, 0);
        int other = x.cell(ZONED, 1, 1);
        int seven = x.number(7);
        int says = x.says(other);
        int store = x.node(9, other, seven);
        Due.is("0", x.rows(seven), "0,7");
        Due.is("1", x.rows(says), "1,1");
        Due.is("2", x.rows(x.node(2, cell, says)), "1,1 2,0");
        Due.is("9", x.rows(store), "0,7 9,1");
        Due.is("10", x.rows(x.storeBehind(other, seven, says)), "0,7 1,1 10,1");
        Due.is("11", x.rows(x.node(11, store, x.node(9, cell, says))), "0,7 9,1 1,1 9,0");
        Due.is("12", x.rows(x.node(12, says, store)), "1,1 12,4 0,7 9,1");
        Due.is("13", x.rows(x.node(13, says, store)), "1,1 13,5 0,7 9,1 14,2");
        for (int kind = 3; kind <= 8; kind++) {
            Due.is("" + kind, x.rows(x.node(kind, seven, says)), "0,7 1,1 " + kind + ",0");
        }
    }

    private static void jumps() {
        Due.sentence("12 goes to where b's rows end; 13 behind all, 14 to the first one of b's rows");
        Calls x = new Calls();
        int seven = x.number(7);
        int store = x.node(9, x.cell(ZONED, 1, 0), seven);
        int sum = x.node(3, seven, x.says(0));
        int ifs = x.node(12, sum, store);
        int loop = x.node(13, sum, store);
        Due.is("12 of a longer a", x.rows(ifs), "0,7 1,0 3,0 12,6 0,7 9,0");
        Due.is("13 of a longer a", x.rows(loop), "0,7 1,0 3,0 13,7 0,7 9,0 14,4");
        Due.is("12 behind a storing", x.rows(x.node(11, store, ifs)), "0,7 9,0 0,7 1,0 3,0 12,8 0,7 9,0");
        Due.is("13 ahead of a storing", x.rows(x.node(11, loop, store)), "0,7 1,0 3,0 13,7 0,7 9,0 14,4 0,7 9,0");
        Due.is("12 in 12", x.rows(x.node(12, seven, ifs)), "0,7 12,8 0,7 1,0 3,0 12,8 0,7 9,0");
        Due.is("13 in 13", x.rows(x.node(13, seven, loop)), "0,7 13,10 0,7 1,0 3,0 13,9 0,7 9,0 14,6 14,2");
        Due.is("12 in 13", x.rows(x.node(13, seven, ifs)), "0,7 13,9 0,7 1,0 3,0 12,8 0,7 9,0 14,2");
        Due.is("13 in 12", x.rows(x.node(12, seven, loop)), "0,7 12,9 0,7 1,0 3,0 13,9 0,7 9,0 14,6");
        Due.is("12 of a value", x.rows(x.node(12, seven, seven)), "0,7 12,4 0,7 15,0");
        Due.is("13 of a value", x.rows(x.node(13, seven, seven)), "0,7 13,5 0,7 15,0 14,2");
    }

    private static void folding() {
        Due.sentence("3 .. 8: if both sides are folded to numbers: what they give");
        int[][] folded = {{3, 5}, {4, 9}, {5, -14}, {6, -3}, {7, 0}, {8, 0}};
        for (int[] f : folded) {
            Calls x = new Calls();
            int cell = x.says(x.cell(ZONED, 1, 0));
            int seven = x.number(7);
            int minusTwo = x.number(-2);
            int both = x.node(f[0], seven, minusTwo);
            String own = f[0] + ",0";
            Due.is("both", x.rows(both), "0," + f[1]);
            Due.is("the first alone", x.rows(x.node(f[0], seven, cell)), "0,7 1,0 " + own);
            Due.is("the second alone", x.rows(x.node(f[0], cell, minusTwo)), "1,0 0,-2 " + own);
            Due.is("neither", x.rows(x.node(f[0], cell, cell)), "1,0 1,0 " + own);
            Due.is("folded ones folded", x.rows(x.node(3, both, both)), "0," + 2 * f[1]);
            Due.is("folded within", x.rows(x.node(f[0], cell, both)), "1,0 0," + f[1] + " " + own);
        }
        Calls x = new Calls();
        int cell = x.cell(ZONED, 1, 0);
        int six = x.node(5, x.number(2), x.number(3));
        Due.is("folded in 2, which is not", x.rows(x.node(2, cell, six)), "0,6 2,0");
        Due.is("2 within a sum", x.rows(x.node(3, x.node(2, cell, six), six)), "0,6 2,0 0,6 3,0");
        Due.is("folded in 9", x.rows(x.node(9, cell, six)), "0,6 9,0");
        Due.is("folded in 10", x.rows(x.storeBehind(cell, six, six)), "0,6 0,6 10,0");
        Due.is("folded in 12, all the same", x.rows(x.node(12, six, six)), "0,6 12,4 0,6 15,0");
        int shared = x.number(1);
        for (int i = 0; i < 100; i++) {
            shared = x.node(3, shared, shared);
        }
        Due.is("1, doubled a hundred times, round 64 bits", x.rows(shared), "0,0");
        Due.is("it is run, too", x.both(shared), 0);

        Due.sentence("a division by zero is not folded");
        Calls y = new Calls();
        int zero = y.number(0);
        int one = y.number(1);
        int byZero = y.node(6, one, zero);
        Due.is("1 / 0", y.rows(byZero), "0,1 0,0 6,0");
        Due.is("0 / 0", y.rows(y.node(6, zero, zero)), "0,0 0,0 6,0");
        Due.is("0 / 1", y.rows(y.node(6, zero, one)), "0,0");
        Due.is("1 / -1", y.rows(y.node(6, one, y.number(-1))), "0,-1");
        Due.is("1 / (1 - 1)", y.rows(y.node(6, one, y.node(4, one, one))), "0,1 0,0 6,0");
        Due.is("1 / 0 within", y.rows(y.node(3, byZero, one)), "0,1 0,0 6,0 0,1 3,0");
        Due.is("1 / (1 / 0)", y.rows(y.node(6, one, byZero)), "0,1 0,1 0,0 6,0 6,0");
        Due.is("less than 1 / 0", y.rows(y.node(7, one, byZero)), "0,1 0,1 0,0 6,0 7,0");
    }

    private static void valuesThatNothingTakes() {
        Due.sentence("a value that nothing takes gets a row (15, 0) behind it");
        Calls x = new Calls();
        int cell = x.cell(ZONED, 1, 0);
        int one = x.number(1);
        int two = x.number(2);
        int store = x.node(9, cell, one);
        Due.is("both sides of 11", x.rows(x.node(11, one, two)), "0,1 15,0 0,2 15,0");
        Due.is("the first side of 11", x.rows(x.node(11, two, store)), "0,2 15,0 0,1 9,0");
        Due.is("the second side of 11", x.rows(x.node(11, store, two)), "0,1 9,0 0,2 15,0");
        Due.is("b of 12", x.rows(x.node(12, one, two)), "0,1 12,4 0,2 15,0");
        Due.is("b of 13", x.rows(x.node(13, one, two)), "0,1 13,5 0,2 15,0 14,2");
        for (int kind = 1; kind <= 8; kind++) {
            int value = kind == 1 ? x.says(cell) : x.node(kind, kind == 2 ? cell : x.says(cell), one);
            String rows = kind == 1 ? "1,0" : kind == 2 ? "0,1 2,0" : "1,0 0,1 " + kind + ",0";
            Due.is("a value of kind " + kind, x.rows(x.node(11, store, value)), "0,1 9,0 " + rows + " 15,0");
        }
        Due.is("a folded value", x.rows(x.node(11, x.node(3, one, two), store)), "0,3 15,0 0,1 9,0");

        Due.sentence("others get no row (15, 0)");
        Calls y = new Calls();
        cell = y.cell(ZONED, 1, 0);
        one = y.number(1);
        store = y.node(9, cell, one);
        int behind = y.storeBehind(cell, one, one);
        int loop = y.node(13, one, store);
        int ifs = y.node(12, one, store);
        Due.is("a root", y.rows(one), "0,1");
        Due.is("9 and 10 in 11", y.rows(y.node(11, store, behind)), "0,1 9,0 0,1 0,1 10,0");
        Due.is("12 and 13 in 11", y.rows(y.node(11, ifs, loop)), "0,1 12,4 0,1 9,0 0,1 13,9 0,1 9,0 14,6");
        Due.is("11 in 11", y.rows(y.node(11, y.node(11, store, store), store)), "0,1 9,0 0,1 9,0 0,1 9,0");
        Due.is("11 in 12", y.rows(y.node(12, one, y.node(11, store, store))), "0,1 12,6 0,1 9,0 0,1 9,0");
        Due.is("10 in 13", y.rows(y.node(13, one, behind)), "0,1 13,6 0,1 0,1 10,0 14,2");
        Due.is("13 in 12", y.rows(y.node(12, one, loop)), "0,1 12,7 0,1 13,7 0,1 9,0 14,4");
    }

    // ---- digits

    /** A node of so many digits that is not folded. */
    private static int ofDigits(Calls x, int digits) {
        if (digits <= 9) {
            return x.says(x.cell(ZONED, digits, 0));
        }
        return x.node(5, x.says(x.cell(ZONED, 9, 0)), ofDigits(x, digits - 9));
    }

    private static void fastLast(Calls x, String what, int root, boolean want) {
        Due.is(what, x.fast(x.make(root) - 1), want);
    }

    /** A node has just so many digits if 18 are had, and not passed, by a product with it. */
    private static void hasDigits(Calls x, String what, int node, int digits) {
        fastLast(x, what + " has at most " + digits, x.node(5, node, ofDigits(x, 18 - digits)), true);
        fastLast(x, what + " has at least " + digits, x.node(5, node, ofDigits(x, 19 - digits)), false);
    }

    private static void digitsOfNumbers() {
        Due.sentence("digits of a number: its own (0 has 1)");
        int[][] numbers = {{0, 1}, {1, 1}, {-1, 1}, {9, 1}, {-9, 1}, {10, 2}, {-10, 2}, {99, 2}, {100, 3}, {-999, 3},
            {1000, 4}, {9999, 4}, {10000, 5}, {99999, 5}, {100000, 6}, {999999, 6}, {1000000, 7}, {9999999, 7},
            {10000000, 8}, {99999999, 8}, {100000000, 9}, {999999999, 9}, {-999999999, 9}, {1000000000, 10},
            {-1000000000, 10}, {Integer.MAX_VALUE, 10}, {Integer.MIN_VALUE, 10}};
        for (int[] n : numbers) {
            Calls x = new Calls();
            hasDigits(x, "" + n[0], x.number(n[0]), n[1]);
        }
    }

    private static void digitsOfCells() {
        Due.sentence("digits of a cell: its own, binary ones 10");
        for (int usage = ZONED; usage <= BINARY; usage++) {
            for (int digits = 1; digits <= 9; digits++) {
                Calls x = new Calls();
                int cell = x.cell(usage, digits, 0);
                int due = usage == BINARY ? 10 : digits;
                String what = digits + " digits of usage " + usage;
                hasDigits(x, what, x.says(cell), due);
                hasDigits(x, what + ", some sizes behind", x.node(2, cell, ofDigits(x, 9)), due);
            }
        }
    }

    private static void digitsOfResults() {
        int[][] sides = {{1, 1}, {1, 5}, {5, 1}, {4, 5}, {5, 5}, {8, 7}};
        for (int[] s : sides) {
            String what = "of " + s[0] + " and " + s[1];
            Calls x = new Calls();
            int a = ofDigits(x, s[0]);
            int b = ofDigits(x, s[1]);
            Due.sentence("digits of sums and differences: one more than the greater side");
            hasDigits(x, "a sum " + what, x.node(3, a, b), Math.max(s[0], s[1]) + 1);
            hasDigits(x, "a difference " + what, x.node(4, a, b), Math.max(s[0], s[1]) + 1);
            Due.sentence("digits of products: both together");
            hasDigits(x, "a product " + what, x.node(5, a, b), s[0] + s[1]);
            Due.sentence("digits of quotients: the first side's");
            hasDigits(x, "a quotient " + what, x.node(6, a, b), s[0]);
            Due.sentence("digits of 7 and 8: 1");
            hasDigits(x, "7 " + what, x.node(7, a, b), 1);
            hasDigits(x, "8 " + what, x.node(8, a, b), 1);
        }
        Due.sentence("digits of folded sums, products and quotients go by their kinds");
        Calls x = new Calls();
        int one = x.number(1);
        hasDigits(x, "1 + 1", x.node(3, one, one), 2);
        hasDigits(x, "1 - 1", x.node(4, one, one), 2);
        hasDigits(x, "1 * 1", x.node(5, one, one), 2);
        hasDigits(x, "100 / 100", x.node(6, x.number(100), x.number(100)), 3);
        hasDigits(x, "100 equal to 100", x.node(8, x.number(100), x.number(100)), 1);
    }

    private static void fastRows() {
        Due.sentence("a row of an op 3 .. 6 is fast if its node has at most 18 digits");
        for (int kind = 3; kind <= 4; kind++) {
            for (int digits = 16; digits <= 19; digits++) {
                Calls x = new Calls();
                int small = ofDigits(x, 1);
                int great = ofDigits(x, digits);
                String what = "op " + kind + " beside " + digits + " digits";
                fastLast(x, what, x.node(kind, great, small), digits <= 17);
                fastLast(x, what + " behind", x.node(kind, small, great), digits <= 17);
            }
        }
        for (int digits = 7; digits <= 11; digits++) {
            Calls x = new Calls();
            int product = x.node(5, ofDigits(x, digits), ofDigits(x, 9));
            fastLast(x, "op 5 of 9 digits and " + digits, product, digits <= 9);
            fastLast(x, "op 6 of their product", x.node(6, product, ofDigits(x, 19)), digits <= 9);
            fastLast(x, "op 6 by their product", x.node(6, ofDigits(x, 18), product), true);
        }

        Due.sentence("rows of other ops are not fast");
        Calls x = new Calls();
        int cell = x.cell(ZONED, 1, 0);
        int one = x.number(1);
        int sum = x.node(3, x.says(cell), one);
        int compared = x.node(7, sum, x.node(8, sum, x.node(2, cell, one)));
        int body = x.node(11, x.node(9, cell, compared), x.storeBehind(cell, one, one));
        int count = x.make(x.node(13, one, x.node(12, one, x.node(11, body, one))));
        Due.is("rows", count, 21);
        for (int i = 0; i < count; i++) {
            int op = x.code(i, 0);
            Due.is("a row of op " + op, x.fast(i), op == 3);
        }

        Due.sentence("more digits than can be counted are not at most 18");
        for (int doublings : new int[] {5, 26, 27, 28, 29, 30, 31, 32, 33, 58, 59, 60, 61, 62, 63, 64, 65, 128}) {
            Calls y = new Calls();
            int digit = y.says(y.cell(ZONED, 1, 0));
            int product = y.number(1);
            for (int i = 0; i < doublings; i++) {
                product = y.node(5, product, product);
            }
            String what = "2 to the " + doublings + ". digits";
            fastLast(y, what + ", and 1", y.node(5, product, digit), false);
            fastLast(y, what + ", one more", y.node(3, digit, product), false);
            fastLast(y, what + ", divided", y.node(6, product, digit), false);
        }
    }

    public static void main(String[] args) {
        storages();
        cellNumbers();
        cellDigits();
        zonedReading();
        packedReading();
        binaryReading();
        for (int usage = ZONED; usage <= BINARY; usage++) {
            storing(usage);
        }
        storingBytes();
        nodeNumbers();
        numbers();
        ownSizes();
        roundSixtyFourBits();
        comparing();
        sequences();
        ifs();
        loops();
        outside();
        divisionByZero();
        countsOfLoops();
        countsOfStorings();
        countsOfARun();
        storedStays();
        plainRows();
        jumps();
        folding();
        valuesThatNothingTakes();
        digitsOfNumbers();
        digitsOfCells();
        digitsOfResults();
        fastRows();
        Due.end();
    }
}
