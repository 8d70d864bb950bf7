/** For each promise of the document: ordinary inputs, the edges that it names, and wrong inputs. */
public final class PromiseTest {
    private static int wrong = 0;
    private static String promise = "";

    private static void due(String what, long got, long want) {
        if (got != want) {
            wrong++;
            System.out.println(promise + ": " + what + " answered " + got + ", due is " + want);
        }
    }

    private static void due(String what, boolean got, boolean want) {
        due(what, got ? 1 : 0, want ? 1 : 0);
    }

    private static void due(String what, String got, String want) {
        if (!got.equals(want)) {
            wrong++;
            System.out.println(promise + ": " + what + " gave [" + got + "], due is [" + want + "]");
        }
    }

    /** A node's code as "op,number op,number .."; what make() answers when it gives no rows. */
    private static String rows(ProcedureCode x, int root) {
        int count = x.make(root);
        if (count < 0) {
            return "answer " + count;
        }
        due("code(count, 0)", x.code(count, 0), -1);
        return kept(x);
    }

    private static String kept(ProcedureCode x) {
        StringBuilder text = new StringBuilder();
        for (int i = 0; x.code(i, 0) != -1; i++) {
            text.append(i == 0 ? "" : " ").append(x.code(i, 0)).append(',').append(x.code(i, 1));
        }
        return text.toString();
    }

    private static String bytes(ProcedureCode x, boolean code, int from, int count) {
        StringBuilder text = new StringBuilder();
        for (int i = from; i < from + count; i++) {
            text.append(i == from ? "" : " ").append(x.at(code, i));
        }
        return text.toString();
    }

    private static boolean throwsOutside(ProcedureCode x, boolean code, int place) {
        try {
            x.at(code, place);
            return false;
        } catch (ArrayIndexOutOfBoundsException e) {
            return e.getClass() == ArrayIndexOutOfBoundsException.class;
        }
    }

    private static int number(ProcedureCode x, int value) {
        return x.node(0, value, 0);
    }

    /** Runs a node both ways; both ways must come to the same. */
    private static int both(ProcedureCode x, int root) {
        due("same(" + root + ")", x.same(root), true);
        int walked = x.run(false, root);
        due("run(true, " + root + ") beside the walk", x.run(true, root), walked);
        due("raised(true) beside the walk", x.raised(true), x.raised(false));
        due("the code's storage beside the walk's", bytes(x, true, 0, 64), bytes(x, false, 0, 64));
        return walked;
    }

    /** A node whose code has 399 rows, all of them of one cell and of sums. */
    private static int node399(ProcedureCode x) {
        int[] doubled = new int[9];
        doubled[1] = x.node(1, x.cell(0, 1, 0), 0);
        for (int i = 2; i <= 8; i++) {
            doubled[i] = x.node(3, doubled[i - 1], doubled[i - 1]);
        }
        return x.node(3, x.node(3, doubled[8], doubled[7]), doubled[4]);
    }

    private static void newObject() {
        promise = "1";
        ProcedureCode x = new ProcedureCode();
        due("NONE", ProcedureCode.NONE, -1);
        due("code(0, 0)", x.code(0, 0), -1);
        due("code(0, 1)", x.code(0, 1), -1);
        due("point(0)", x.point(0), -1);
        due("fast(0)", x.fast(0), false);
        due("make(0)", x.make(0), -2);
        due("make(1)", x.make(1), -2);
        due("run(false, 1)", x.run(false, 1), 0);
        due("run(true, 1)", x.run(true, 1), 0);
        due("same(1)", x.same(1), false);
        due("raised(false)", x.raised(false), 0);
        due("raised(true)", x.raised(true), 0);
        due("node(1, 0, 0)", x.node(1, 0, 0), -2);
        for (int i = 0; i < 64; i++) {
            due("at(false, " + i + ")", x.at(false, i), 0);
            due("at(true, " + i + ")", x.at(true, i), 0);
        }
        due("cell(0, 1, 0)", x.cell(0, 1, 0), 0);
        due("node(0, 0, 0)", x.node(0, 0, 0), 1);
        x.put(5, (byte) 9);
        ProcedureCode y = new ProcedureCode();
        due("another one's at(false, 5)", y.at(false, 5), 0);
        due("another one's node(1, 0, 0)", y.node(1, 0, 0), -2);
    }

    private static void cells() {
        promise = "2";
        ProcedureCode x = new ProcedureCode();
        int[][] refused = {
            {-1, 1, 0}, {3, 1, 0}, {Integer.MAX_VALUE, 1, 0}, {Integer.MIN_VALUE, 1, 0},
            {0, 0, 0}, {0, 10, 0}, {1, 0, 0}, {1, 10, 0}, {2, 0, 0}, {2, 10, 0}, {0, -1, 0},
            {0, 1, -1}, {0, 1, 64}, {0, 9, 56}, {0, 1, Integer.MAX_VALUE}, {0, 1, Integer.MIN_VALUE},
            {1, 1, 64}, {1, 2, 63}, {1, 8, 60}, {1, 9, 60}, {1, 9, Integer.MAX_VALUE},
            {2, 1, 61}, {2, 9, 61}, {2, 1, -1}, {2, 9, Integer.MAX_VALUE}, {0, Integer.MAX_VALUE, 0}};
        int[][] taken = {
            {0, 1, 0}, {0, 1, 63}, {0, 9, 55}, {1, 1, 63}, {1, 2, 62}, {1, 3, 62}, {1, 8, 59},
            {1, 9, 59}, {2, 1, 60}, {2, 9, 60}, {2, 9, 0}, {2, 9, 0}};
        for (int[] r : refused) {
            due("cell(" + r[0] + ", " + r[1] + ", " + r[2] + ")", x.cell(r[0], r[1], r[2]), -4);
        }
        for (int i = 0; i < taken.length; i++) {
            int[] t = taken[i];
            due("cell(" + t[0] + ", " + t[1] + ", " + t[2] + ")", x.cell(t[0], t[1], t[2]), i);
        }
        for (int i = taken.length; i < 40; i++) {
            due("the cell behind " + i + " others", x.cell(i % 3, 1 + i % 9, i), i);
        }
        due("the 41st cell", x.cell(0, 1, 0), -1);
        due("the 41st cell, not so", x.cell(0, 1, 64), -4);
        due("node(1, 39, 0)", x.node(1, 39, 0), 1);
        due("node(1, 40, 0)", x.node(1, 40, 0), -2);
        due("node(1, -1, 0)", x.node(1, -1, 0), -2);
    }

    private static void nodes() {
        promise = "3";
        ProcedureCode x = new ProcedureCode();
        x.cell(0, 1, 0);
        due("kind -1", x.node(-1, 0, 0), -4);
        due("kind 14", x.node(14, 1, 1), -4);
        due("kind 15", x.node(15, 1, 1), -4);
        due("a number, b is free", x.node(0, Integer.MIN_VALUE, 99), 1);
        due("a cell, b is free", x.node(1, 0, -7), 2);
        due("a statement", x.node(9, 0, 1), 3);
        due("an element", x.node(2, 0, 1), 4);
        due("two values in a row", x.node(11, 1, 2), 5);
        due("two statements in a row", x.node(11, 3, 5), 6);
        due("a value and a statement in a row", x.node(11, 1, 3), 7);
        due("a statement and a value in a row", x.node(11, 3, 1), 8);
        due("2 of no cell", x.node(2, 1, 1), -2);
        due("2 of no node", x.node(2, 0, 9), -2);
        due("2 of node 0", x.node(2, 0, 0), -2);
        due("2 of a statement", x.node(2, 0, 3), -2);
        for (int kind = 3; kind <= 8; kind++) {
            due(kind + " a no node", x.node(kind, 0, 1), -2);
            due(kind + " b no node", x.node(kind, 1, 0), -2);
            due(kind + " a behind the last", x.node(kind, 9, 1), -2);
            due(kind + " b itself", x.node(kind, 1, 9), -2);
            due(kind + " a below 0", x.node(kind, -1, 1), -2);
            due(kind + " a a statement", x.node(kind, 3, 1), -2);
            due(kind + " b a statement", x.node(kind, 1, 3), -2);
            due(kind + " b of kind 11", x.node(kind, 1, 5), -2);
        }
        due("9 to no cell", x.node(9, 1, 1), -2);
        due("9 to cell -1", x.node(9, -1, 1), -2);
        due("9 of no node", x.node(9, 0, 9), -2);
        due("9 of a statement", x.node(9, 0, 3), -2);
        due("10 to no cell", x.node(10, 1, 5), -2);
        due("10 of no node", x.node(10, 0, 9), -2);
        due("10 of node 0", x.node(10, 0, 0), -2);
        due("10 of a value", x.node(10, 0, 1), -2);
        due("10 of a kind 9", x.node(10, 0, 3), -2);
        due("10 of two statements", x.node(10, 0, 6), -2);
        due("10, second side a statement", x.node(10, 0, 7), -2);
        due("10, first side a statement", x.node(10, 0, 8), -2);
        due("11 of no node", x.node(11, 0, 1), -2);
        due("11 b of no node", x.node(11, 1, 9), -2);
        for (int kind = 12; kind <= 13; kind++) {
            due(kind + " a no node", x.node(kind, 0, 3), -2);
            due(kind + " b no node", x.node(kind, 1, 0), -2);
            due(kind + " a a statement", x.node(kind, 3, 1), -2);
            due(kind + " a of kind 11", x.node(kind, 5, 1), -2);
        }
        due("refused ones take no number", x.node(10, 0, 5), 9);
        due("10 as a value", x.node(3, 9, 1), -2);
        due("12 of a statement", x.node(12, 1, 9), 10);
        due("12 of a value", x.node(12, 1, 1), 11);
        due("13 of a statement", x.node(13, 1, 11), 12);
        due("13 of a value", x.node(13, 1, 1), 13);
        due("12 as a value", x.node(9, 0, 11), -2);
        due("13 as a value", x.node(12, 12, 1), -2);
        for (int n = 14; n <= 200; n++) {
            due("node " + n, x.node(0, n, 0), n);
        }
        due("the 201st", x.node(0, 0, 0), -1);
        due("the 201st, kind is not so", x.node(14, 0, 0), -4);
        due("the 201st, no such cell", x.node(1, 1, 0), -2);
        due("the 201st, no such node", x.node(3, 1, 201), -2);
        due("make(200)", x.make(200), 1);
        due("make(201)", x.make(201), -2);
    }

    private static void making() {
        promise = "4";
        ProcedureCode x = new ProcedureCode();
        x.cell(0, 2, 0);
        int seven = number(x, 7);
        int zero = number(x, 0);
        int cell = x.node(1, 0, 0);
        int pair = x.node(11, seven, cell);
        int store = x.node(9, 0, seven);
        due("0", rows(x, seven), "0,7");
        due("1", rows(x, cell), "1,0");
        due("2", rows(x, x.node(2, 0, seven)), "0,7 2,0");
        for (int kind = 3; kind <= 8; kind++) {
            due("" + kind, rows(x, x.node(kind, cell, seven)), "1,0 0,7 " + kind + ",0");
        }
        due("9", rows(x, store), "0,7 9,0");
        due("10", rows(x, x.node(10, 0, pair)), "0,7 1,0 10,0");
        due("11 of values", rows(x, pair), "0,7 15,0 1,0 15,0");
        due("11 of statements", rows(x, x.node(11, store, store)), "0,7 9,0 0,7 9,0");
        due("11 of a statement and a value", rows(x, x.node(11, store, cell)), "0,7 9,0 1,0 15,0");
        due("12 of a statement", rows(x, x.node(12, zero, store)), "0,0 12,4 0,7 9,0");
        due("12 of a value", rows(x, x.node(12, cell, seven)), "1,0 12,4 0,7 15,0");
        int loop = x.node(13, cell, store);
        due("13 of a statement", rows(x, loop), "1,0 13,5 0,7 9,0 14,2");
        int loopOfValue = x.node(13, seven, cell);
        due("13 of a value", rows(x, loopOfValue), "0,7 13,5 1,0 15,0 14,2");
        due("behind others", rows(x, x.node(11, store, x.node(13, seven, loop))),
            "0,7 9,0 0,7 13,10 1,0 13,9 0,7 9,0 14,6 14,4");
        due("12 within 12", rows(x, x.node(12, cell, x.node(12, zero, pair))), "1,0 12,8 0,0 12,8 0,7 15,0 1,0 15,0");
        folding(x, seven, zero, cell);
        limits();
    }

    private static void folding(ProcedureCode x, int seven, int zero, int cell) {
        int minusTwo = number(x, -2);
        due("3 folded", rows(x, x.node(3, seven, minusTwo)), "0,5");
        due("4 folded", rows(x, x.node(4, seven, minusTwo)), "0,9");
        due("5 folded", rows(x, x.node(5, seven, minusTwo)), "0,-14");
        due("6 folded, whole part", rows(x, x.node(6, seven, minusTwo)), "0,-3");
        due("7 folded", rows(x, x.node(7, minusTwo, seven)), "0,1");
        due("7 folded, equal", rows(x, x.node(7, seven, seven)), "0,0");
        due("8 folded", rows(x, x.node(8, seven, seven)), "0,1");
        due("8 folded, unlike", rows(x, x.node(8, seven, zero)), "0,0");
        int byZero = x.node(6, seven, zero);
        due("no folding by zero", rows(x, byZero), "0,7 0,0 6,0");
        due("no folding above", rows(x, x.node(3, byZero, seven)), "0,7 0,0 6,0 0,7 3,0");
        int five = x.node(3, seven, minusTwo);
        due("folded twice", rows(x, x.node(5, five, five)), "0,25");
        due("folded on one side", rows(x, x.node(5, five, cell)), "0,5 1,0 5,0");
        due("folded in 12", rows(x, x.node(12, five, five)), "0,5 12,4 0,5 15,0");
        int least = number(x, Integer.MIN_VALUE);
        int leastLong = x.node(5, x.node(5, least, least), minusTwo);
        due("going round 64 bits", rows(x, x.node(4, leastLong, number(x, 1))), "0,-1");
        due("the least by -1", rows(x, x.node(8, x.node(6, leastLong, number(x, -1)), leastLong)), "0,1");
    }

    private static void limits() {
        ProcedureCode x = new ProcedureCode();
        int most = node399(x);
        int cell = 1;
        int full = x.node(9, 0, most);
        int over = x.node(3, most, cell);
        due("399 rows", x.make(most), 399);
        due("400 rows", x.make(full), 400);
        due("code(399, 0)", x.code(399, 0), 9);
        due("code(400, 0)", x.code(400, 0), -1);
        due("make(0)", x.make(0), -2);
        due("the code before stays", x.code(399, 0), 9);
        due("401 rows", x.make(over), -1);
        due("then there is none", x.code(0, 0), -1);
        due("then there is no storing", x.point(0), -1);
        due("then nothing is fast", x.fast(2), false);
        due("400 rows again", x.make(full), 400);
        due("a row for a value that nothing takes", x.make(x.node(11, most, cell)), -1);
        int shared = number(x, 3);
        int sharedCell = cell;
        for (int i = 0; i < 60; i++) {
            shared = x.node(3, shared, shared);
            sharedCell = x.node(11, sharedCell, sharedCell);
        }
        due("2 to the 60th numbers, folded", x.make(shared), 1);
        due("2 to the 60th statements", x.make(sharedCell), -1);
    }

    private static void readingRows() {
        promise = "5";
        ProcedureCode x = new ProcedureCode();
        x.cell(2, 9, 0);
        int big = number(x, Integer.MAX_VALUE);
        int product = x.node(5, big, big);
        x.make(x.node(9, 0, product));
        due("code(0, 0)", x.code(0, 0), 0);
        due("the lowest 32 bits", x.code(0, 1), 1);
        due("code(0, 2)", x.code(0, 2), -1);
        due("code(0, -1)", x.code(0, -1), -1);
        due("code(-1, 0)", x.code(-1, 0), -1);
        due("code(1, 1)", x.code(1, 1), 0);
        due("code(2, 0)", x.code(2, 0), -1);
        due("code(2, 1)", x.code(2, 1), -1);
        due("code(MAX, 0)", x.code(Integer.MAX_VALUE, 0), -1);
        due("code(MIN, 1)", x.code(Integer.MIN_VALUE, 1), -1);
        x.make(big);
        due("a longer code is gone", x.code(1, 0), -1);
        due("the number", x.code(0, 1), Integer.MAX_VALUE);
    }

    private static void stored(int usage, int digits, int value, String want) {
        ProcedureCode x = new ProcedureCode();
        int size = usage == 0 ? digits : usage == 1 ? digits / 2 + 1 : 4;
        for (int i = 0; i < 64; i++) {
            x.put(i, (byte) 85);
        }
        x.cell(usage, digits, 1);
        String what = value + " in " + digits + " digits of usage " + usage;
        due(what, both(x, x.node(9, 0, number(x, value))), 1);
        due(what, bytes(x, false, 0, size + 2), "85 " + want + " 85");
    }

    private static void storing() {
        promise = "6, storing";
        stored(0, 3, 0, "48 48 48");
        stored(0, 3, 42, "48 52 50");
        stored(0, 3, -42, "48 52 114");
        stored(0, 3, 12345, "51 52 53");
        stored(0, 3, -12345, "51 52 117");
        stored(0, 2, -100, "48 48");
        stored(0, 1, -9, "121");
        stored(0, 9, Integer.MIN_VALUE, "49 52 55 52 56 51 54 52 120");
        stored(1, 1, 5, "92");
        stored(1, 1, -5, "93");
        stored(1, 2, 47, "4 124");
        stored(1, 2, -347, "4 125");
        stored(1, 3, -347, "52 125");
        stored(1, 3, -5000, "0 12");
        stored(1, 4, 0, "0 0 12");
        stored(1, 8, -98765432, "9 -121 101 67 45");
        stored(1, 9, 987654321, "-104 118 84 50 28");
        stored(2, 9, 1, "0 0 0 1");
        stored(2, 9, -1, "-1 -1 -1 -1");
        stored(2, 9, 999999999, "59 -102 -55 -1");
        stored(2, 9, 1999999999, "59 -102 -55 -1");
        stored(2, 9, -1999999999, "-60 101 54 1");
        stored(2, 2, 300, "0 0 0 0");
        stored(2, 2, -301, "-1 -1 -1 -1");
        stored(2, 3, 300, "0 0 1 44");
    }

    private static void loaded(int usage, int digits, byte[] given, int want) {
        ProcedureCode x = new ProcedureCode();
        for (int i = 0; i < given.length; i++) {
            x.put(i, given[i]);
        }
        x.cell(usage, digits, 0);
        x.cell(0, 1, 60);
        int alike = x.node(8, x.node(1, 0, 0), number(x, want));
        due("reading " + want + " of usage " + usage, both(x, x.node(9, 1, alike)), 1);
        due("reading " + want + " of usage " + usage, x.at(false, 60), 49);
    }

    private static void loading() {
        promise = "6, reading";
        loaded(0, 3, new byte[] {0, 0, 0}, 0);
        loaded(0, 3, new byte[] {49, 50, 51}, 123);
        loaded(0, 3, new byte[] {49, 50, 115}, -123);
        loaded(0, 3, new byte[] {113, 114, 51}, 123);
        loaded(0, 3, new byte[] {10, -1, 15}, 55);
        loaded(0, 2, new byte[] {31, -1}, -55);
        loaded(0, 1, new byte[] {64}, 0);
        loaded(1, 3, new byte[] {18, 60}, 123);
        loaded(1, 3, new byte[] {18, 61}, -123);
        loaded(1, 3, new byte[] {18, 63}, 123);
        loaded(1, 3, new byte[] {18, 48}, 123);
        loaded(1, 2, new byte[] {-2, 61}, -43);
        loaded(1, 2, new byte[] {18, 60}, 23);
        loaded(1, 3, new byte[] {-85, -52}, 12);
        loaded(2, 1, new byte[] {0, 0, 1, 2}, 258);
        loaded(2, 1, new byte[] {-1, -1, -1, -2}, -2);
        loaded(2, 1, new byte[] {-128, 0, 0, 0}, Integer.MIN_VALUE);
        loaded(2, 9, new byte[] {127, -1, -1, -1}, Integer.MAX_VALUE);
    }

    private static void running() {
        promise = "6";
        ProcedureCode x = new ProcedureCode();
        x.cell(0, 2, 10);
        int five = number(x, 5);
        int cell = x.node(1, 0, 0);
        int plus = x.node(9, 0, x.node(3, cell, five));
        due("run(false, 0)", x.run(false, 0), 0);
        due("run(true, 0)", x.run(true, 0), 0);
        due("run(false, -1)", x.run(false, -1), 0);
        due("run(true, 6)", x.run(true, 6), 0);
        due("run(false, 6)", x.run(false, 6), 0);
        due("the walk", x.run(false, plus), 1);
        due("the walk's own storage", bytes(x, false, 10, 2), "48 53");
        due("not the code's", bytes(x, true, 10, 2), "0 0");
        due("no code of a walk", kept(x), "");
        due("by code", x.run(true, plus), 1);
        due("by code, twice", x.run(true, plus), 1);
        due("the code's own storage", bytes(x, true, 10, 2), "49 48");
        due("not the walk's", bytes(x, false, 10, 2), "48 53");
        due("its code is kept", kept(x), "1,0 0,5 3,0 9,0");
        x.make(five);
        x.run(false, plus);
        due("a walk leaves the code", kept(x), "0,5");
        due("no such node, by code", x.run(true, 99), 0);
        due("no such node leaves the code", kept(x), "0,5");
        due("a value is run", both(x, cell) , 1);
    }

    private static void noPlace() {
        promise = "6, no place";
        ProcedureCode x = new ProcedureCode();
        int most = node399(x);
        int zero = number(x, 0);
        int full = x.node(9, 0, most);
        int over = x.node(11, full, x.node(9, 0, zero));
        int byZero = x.node(6, zero, zero);
        x.put(0, (byte) 49);
        x.run(false, byZero);
        x.run(true, byZero);
        x.make(full);
        due("a walk without place for its code", x.run(false, over), 0);
        due("that walk leaves the code", x.code(399, 0), 9);
        due("nothing was done", x.at(false, 0), 49);
        due("by code", x.run(true, over), 0);
        due("then there is no code", x.code(0, 0), -1);
        due("nothing was done by code", x.at(true, 0), 49);
        due("raised(false) stays", x.raised(false), 2);
        due("raised(true) stays", x.raised(true), 2);
        due("400 rows walked", x.run(false, full), 1);
        due("200 ones", x.at(false, 0), 48);
        due("400 rows by code", x.run(true, full), 1);
        due("200 ones by code", x.at(true, 0), 48);
    }

    private static void subscripts() {
        promise = "6, subscripts";
        ProcedureCode x = new ProcedureCode();
        x.cell(2, 9, 28);
        x.cell(0, 3, 1);
        int[] good = {-7, -1, 0, 1, 8};
        int[] bad = {-8, 9, 10, 1 << 30, Integer.MIN_VALUE, Integer.MAX_VALUE};
        for (int index : good) {
            int i = number(x, index);
            int root = x.node(10, 0, x.node(11, i, number(x, 100 + index)));
            due("storing " + index + " behind", both(x, root), 1);
            due("its place", x.at(false, 28 + 4 * index + 3), 100 + index);
            due("reading " + index + " behind", both(x, x.node(9, 1, x.node(2, 0, i))), 1);
            due("what was read", (x.at(false, 1) - 48) * 100 + (x.at(false, 2) - 48) * 10 + x.at(false, 3) - 48, 100 + index);
        }
        for (int index : bad) {
            int i = number(x, index);
            due("storing " + index + " behind", both(x, x.node(10, 0, x.node(11, i, i))), 2);
            due("raised", x.raised(false), 1);
            due("reading " + index + " behind", both(x, x.node(2, 0, i)), 2);
            due("raised", x.raised(true), 1);
        }
        due("a cell's end outside", both(x, x.node(2, 1, number(x, 21))), 2);
        due("a cell's end just inside", both(x, x.node(2, 1, number(x, 20))), 1);
        due("a cell's start outside", both(x, x.node(2, 1, number(x, -1))), 2);
        int far = x.node(5, number(x, 1 << 30), number(x, 1 << 30));
        int round = x.node(5, far, number(x, 4));
        due("far behind, round 64 bits to its place", both(x, x.node(2, 0, round)), 2);
        due("raised", x.raised(true), 1);
        due("farther behind, round 64 bits", both(x, x.node(2, 0, x.node(5, far, number(x, -4)))), 2);
    }

    private static void raising() {
        promise = "6, what raises first";
        ProcedureCode x = new ProcedureCode();
        x.cell(0, 1, 0);
        x.cell(0, 1, 1);
        int zero = number(x, 0);
        int one = number(x, 1);
        int byZero = x.node(6, one, zero);
        int outside = x.node(2, 0, number(x, 64));
        int[][] cases = {
            {x.node(3, byZero, outside), 2}, {x.node(3, outside, byZero), 1},
            {x.node(6, outside, zero), 1}, {x.node(6, byZero, outside), 2},
            {x.node(10, 0, x.node(11, byZero, outside)), 2}, {x.node(10, 0, x.node(11, outside, byZero)), 1},
            {x.node(10, 0, x.node(11, number(x, 64), byZero)), 2}, {x.node(2, 0, byZero), 2},
            {x.node(9, 0, byZero), 2}, {x.node(12, byZero, outside), 2}, {x.node(13, byZero, outside), 2},
            {x.node(12, one, outside), 1}, {x.node(13, one, byZero), 2}, {x.node(11, outside, byZero), 1}};
        for (int[] c : cases) {
            due("run of node " + c[0], both(x, c[0]), 2);
            due("raised of node " + c[0], x.raised(true), c[1]);
        }
        due("12 not done", both(x, x.node(12, zero, byZero)), 1);
        due("13 no times", both(x, x.node(13, zero, byZero)), 1);
        due("13 below 0 times", both(x, x.node(13, number(x, -3), byZero)), 1);
        due("12 of a number below 0", both(x, x.node(12, number(x, -3), byZero)), 2);
        int kept = x.node(11, x.node(9, 0, one), x.node(11, byZero, x.node(9, 1, one)));
        due("what was stored", both(x, kept), 2);
        due("stays", bytes(x, false, 0, 2), "49 0");
        due("a division by a cell of 0", both(x, x.node(6, one, x.node(1, 1, 0))), 2);
        due("raised", x.raised(false), 2);
    }

    private static int timesOf(ProcedureCode x, int times, int node) {
        return x.node(13, number(x, times), node);
    }

    private static void counting() {
        promise = "6, counts";
        ProcedureCode x = new ProcedureCode();
        x.cell(2, 9, 0);
        x.cell(0, 1, 4);
        int one = number(x, 1);
        int plus = x.node(9, 0, x.node(3, x.node(1, 0, 0), one));
        due("1000 times a value", both(x, timesOf(x, 1000, one)), 1);
        due("1001 times a value", both(x, timesOf(x, 1001, one)), 2);
        due("raised", x.raised(false), 3);
        due("500 times a storing", both(x, timesOf(x, 500, plus)), 1);
        due("500", bytes(x, false, 0, 4), "0 0 1 -12");
        due("raised", x.raised(true), 0);
        due("501 times a storing", both(x, timesOf(x, 501, plus)), 2);
        due("500 more", bytes(x, false, 0, 4), "0 0 3 -24");
        due("counts are a run's own", both(x, plus), 1);
        int fullLoop = timesOf(x, 1000, one);
        int oddLoop = timesOf(x, 999, one);
        due("a storing behind 999", both(x, x.node(11, oddLoop, plus)), 1);
        due("1002", bytes(x, false, 0, 4), "0 0 3 -22");
        due("a storing behind 1000", both(x, x.node(11, fullLoop, plus)), 2);
        due("raised", x.raised(true), 3);
        due("still 1002", bytes(x, false, 0, 4), "0 0 3 -22");
        due("no count, no raise", both(x, x.node(11, fullLoop, timesOf(x, 0, one))), 1);
        int far = x.node(10, 0, x.node(11, number(x, 99), one));
        due("outside behind 1000", both(x, x.node(11, fullLoop, far)), 2);
        due("1 ahead of 3", x.raised(false), 1);
        int byZero = x.node(6, one, number(x, 0));
        due("by zero to store, behind 1000", both(x, x.node(11, fullLoop, x.node(9, 0, byZero))), 2);
        due("2 comes first", x.raised(true), 2);
        due("by zero in a loop, behind 1000", both(x, x.node(11, fullLoop, timesOf(x, 1, byZero))), 2);
        due("3 comes first", x.raised(true), 3);
        due("loops in loops: 10 + 10 * 99", both(x, timesOf(x, 10, timesOf(x, 99, one))), 1);
        due("loops in loops: 10 + 10 * 100", both(x, timesOf(x, 10, timesOf(x, 100, one))), 2);
        due("the most times of all", both(x, timesOf(x, Integer.MAX_VALUE, one)), 2);
        int setCell = x.node(9, 1, number(x, 3));
        int takesCell = x.node(13, x.node(1, 1, 0), x.node(11, x.node(9, 1, number(x, 9)), plus));
        due("times are asked once", both(x, x.node(11, setCell, takesCell)), 1);
        due("1005", bytes(x, false, 0, 4), "0 0 3 -19");
    }

    /** As many steps as a run can need: a long node, as often as can be counted. */
    private static void longest() {
        promise = "6, the longest run";
        ProcedureCode x = new ProcedureCode();
        node399(x);
        int body = x.node(3, 8, 7);
        int loop = timesOf(x, 999, body);
        due("rows of the loop", x.make(loop), 387);
        due("the longest run", both(x, x.node(11, loop, x.node(9, 0, number(x, 7)))), 1);
        due("what stands behind its loop", x.at(true, 0), 55);
    }

    /** Every node deeper than the one before: the deepest trees that 200 nodes can be. */
    private static void deepTrees() {
        promise = "6, depth";
        for (int kind = 2; kind <= 13; kind++) {
            if (kind == 9 || kind == 10) {
                continue;
            }
            ProcedureCode x = new ProcedureCode();
            x.cell(0, 1, 0);
            int cell = x.node(1, 0, 0);
            int node = x.node(kind, kind == 2 ? 0 : cell, cell);
            while (node < 200) {
                node = x.node(kind, kind == 2 ? 0 : cell, node);
            }
            boolean fits = kind == 2 || kind == 12 || kind <= 8;
            if (fits || kind == 11) {
                due("depth of kind " + kind, both(x, node), kind == 6 ? 2 : 1);
            } else {
                due("no place for kind " + kind, x.make(node), -1);
            }
        }
        ProcedureCode x = new ProcedureCode();
        x.cell(0, 1, 0);
        int node = x.node(9, 0, number(x, 1));
        int one = number(x, 1);
        for (int i = 0; i < 132; i++) {
            node = x.node(13, one, node);
        }
        due("132 loops within one another", both(x, node), 1);
        due("stored within all", x.at(true, 0), 49);
    }

    /** The deepest values must come out of the deepest trees, not only end. */
    private static void deepValues() {
        promise = "6, depth of values";
        ProcedureCode x = new ProcedureCode();
        x.cell(2, 9, 0);
        x.cell(0, 3, 4);
        x.put(3, (byte) 1);
        int cell = x.node(1, 0, 0);
        int sum = cell;
        while (sum < 199) {
            sum = x.node(3, cell, sum);
        }
        due("199 ones, the last first", both(x, x.node(9, 1, sum)), 1);
        due("199", bytes(x, false, 4, 3), "49 57 57");
        x = new ProcedureCode();
        x.cell(0, 1, 0);
        int one = number(x, 1);
        int inner = x.node(9, 0, one);
        while (inner < 200) {
            inner = x.node(12, one, inner);
        }
        due("a storing within 198 conditions", both(x, inner), 1);
        due("stored", x.at(false, 0), 49);
    }

    private static void atAndPut() {
        promise = "7 and 8";
        ProcedureCode x = new ProcedureCode();
        int[] outside = {-1, 64, Integer.MIN_VALUE, Integer.MAX_VALUE};
        for (int place : outside) {
            due("at(false, " + place + ") throws", throwsOutside(x, false, place), true);
            due("at(true, " + place + ") throws", throwsOutside(x, true, place), true);
            due("put(" + place + ", 1)", x.put(place, (byte) 1), -4);
        }
        due("nothing was put", bytes(x, false, 0, 64), bytes(new ProcedureCode(), true, 0, 64));
        for (int place = 0; place < 64; place++) {
            due("put(" + place + ")", x.put(place, (byte) (place * 4 - 128)), 1);
        }
        for (int place = 0; place < 64; place++) {
            due("at(false, " + place + ")", x.at(false, place), place * 4 - 128);
            due("at(true, " + place + ")", x.at(true, place), place * 4 - 128);
        }
        x.cell(0, 1, 3);
        x.run(true, x.node(9, 0, number(x, 2)));
        due("the code's byte", x.at(true, 3), 50);
        due("the walk's byte", x.at(false, 3), -116);
        due("both are put", x.put(3, (byte) 127), 1);
        due("the code's byte", x.at(true, 3), 127);
        due("the walk's byte", x.at(false, 3), 127);
    }

    private static void fastOf(ProcedureCode x, int root, boolean want) {
        int last = x.make(root) - 1;
        due("fast(" + last + ") of node " + root, x.fast(last), want);
        for (int i = 0; i < last; i++) {
            int op = x.code(i, 0);
            due("fast of a row of op " + op, x.fast(i) && (op < 3 || op > 6), false);
        }
    }

    private static void fastRows() {
        promise = "9";
        ProcedureCode x = new ProcedureCode();
        x.cell(0, 9, 0);
        x.cell(2, 1, 0);
        x.cell(1, 8, 0);
        int nine = x.node(1, 0, 0);
        int binary = x.node(1, 1, 0);
        int eight = x.node(1, 2, 0);
        int zero = number(x, 0);
        int eightteen = x.node(5, nine, nine);
        int nineteen = x.node(5, binary, nine);
        int seventeen = x.node(5, eight, nine);
        fastOf(x, eightteen, true);
        fastOf(x, nineteen, false);
        fastOf(x, x.node(5, binary, eight), true);
        fastOf(x, x.node(5, binary, binary), false);
        fastOf(x, x.node(3, seventeen, eight), true);
        fastOf(x, x.node(3, eight, seventeen), true);
        fastOf(x, x.node(4, seventeen, seventeen), true);
        fastOf(x, x.node(3, eightteen, zero), false);
        fastOf(x, x.node(3, zero, eightteen), false);
        fastOf(x, x.node(4, zero, eightteen), false);
        fastOf(x, x.node(6, eightteen, nineteen), true);
        fastOf(x, x.node(6, nineteen, zero), false);
        fastOf(x, x.node(7, nine, nine), false);
        fastOf(x, x.node(8, nine, nine), false);
        fastOf(x, x.node(5, seventeen, x.node(7, nineteen, nineteen)), true);
        fastOf(x, x.node(5, eightteen, x.node(8, nineteen, nineteen)), false);
        fastOf(x, x.node(5, seventeen, zero), true);
        fastOf(x, x.node(5, seventeen, number(x, -9)), true);
        fastOf(x, x.node(5, seventeen, number(x, 10)), false);
        fastOf(x, x.node(5, eight, number(x, Integer.MIN_VALUE)), true);
        fastOf(x, x.node(5, nine, number(x, Integer.MIN_VALUE)), false);
        fastOf(x, x.node(5, nine, number(x, 999999999)), true);
        fastOf(x, x.node(5, nine, number(x, -1000000000)), false);
        fastOf(x, x.node(5, nine, x.node(2, 0, zero)), true);
        fastOf(x, x.node(5, nine, x.node(2, 1, zero)), false);
        fastOf(x, x.node(3, number(x, 1), number(x, 1)), false);
        fastOf(x, x.node(6, number(x, 1), zero), true);
        int doubled = nine;
        for (int i = 0; i < 7; i++) {
            doubled = x.node(5, doubled, doubled);
        }
        fastOf(x, doubled, false);
        int manyDigits = number(x, 9);
        for (int i = 0; i < 70; i++) {
            manyDigits = x.node(5, manyDigits, manyDigits);
        }
        fastOf(x, x.node(5, manyDigits, nine), false);
        x.make(eightteen);
        due("fast(2)", x.fast(2), true);
        due("fast(0)", x.fast(0), false);
        due("fast(-1)", x.fast(-1), false);
        due("fast(3)", x.fast(3), false);
        due("fast(MAX)", x.fast(Integer.MAX_VALUE), false);
        x.make(x.node(9, 0, x.node(4, nineteen, eightteen)));
        due("the wide product", x.fast(2), false);
        due("the product within", x.fast(5), true);
        due("the difference", x.fast(6), false);
    }

    private static void points() {
        promise = "10";
        ProcedureCode x = new ProcedureCode();
        x.cell(0, 1, 0);
        int one = number(x, 1);
        int store = x.node(9, 0, one);
        int behind = x.node(10, 0, x.node(11, one, one));
        int root = x.node(11, store, x.node(12, one, x.node(11, behind, x.node(13, one, store))));
        due("the rows", rows(x, root), "0,1 9,0 0,1 12,12 0,1 0,1 10,0 0,1 13,12 0,1 9,0 14,9");
        due("point(0)", x.point(0), 1);
        due("point(1)", x.point(1), 6);
        due("point(2)", x.point(2), 10);
        due("point(3)", x.point(3), -1);
        due("point(-1)", x.point(-1), -1);
        due("point(MAX)", x.point(Integer.MAX_VALUE), -1);
        due("point(MIN)", x.point(Integer.MIN_VALUE), -1);
        x.make(one);
        due("a code without storings", x.point(0), -1);
        x.make(store);
        due("another code", x.point(0), 1);
        due("no more in it", x.point(1), -1);
    }

    private static void raisedOnes() {
        promise = "11";
        ProcedureCode x = new ProcedureCode();
        x.cell(0, 1, 0);
        int one = number(x, 1);
        int byZero = x.node(6, one, number(x, 0));
        int outside = x.node(2, 0, number(x, 64));
        int endless = x.node(13, number(x, 1001), one);
        x.run(false, byZero);
        due("raised(false)", x.raised(false), 2);
        due("raised(true), not run", x.raised(true), 0);
        x.run(true, outside);
        due("raised(true)", x.raised(true), 1);
        due("raised(false), not run again", x.raised(false), 2);
        x.run(false, endless);
        due("raised(false)", x.raised(false), 3);
        due("make", x.make(one), 1);
        due("raised(true) behind make", x.raised(true), 1);
        due("no run", x.run(true, 99), 0);
        due("raised(true) behind no run", x.raised(true), 1);
        due("no run", x.run(false, 99), 0);
        due("raised(false) behind no run", x.raised(false), 3);
        x.run(true, one);
        due("raised(true) behind one that ended", x.raised(true), 0);
        x.run(false, one);
        due("raised(false) behind one that ended", x.raised(false), 0);
    }

    private static void sameOnes() {
        promise = "12";
        ProcedureCode x = new ProcedureCode();
        int most = node399(x);
        int one = number(x, 1);
        int plus = x.node(9, 0, x.node(3, 1, one));
        int byZero = x.node(6, one, number(x, 0));
        int outside = x.node(2, 0, number(x, 64));
        int over = x.node(3, most, 1);
        x.run(false, plus);
        x.run(false, byZero);
        x.run(true, outside);
        due("from the walk's storage", x.same(plus), true);
        due("the code is that node's", kept(x), "1,0 0,1 3,0 9,0");
        due("the walk's storage", x.at(false, 0), 49);
        due("the code's storage", x.at(true, 0), 0);
        due("raised(false)", x.raised(false), 2);
        due("raised(true)", x.raised(true), 1);
        due("by the walk's cell, not by the code's", x.same(x.node(6, one, 1)), true);
        due("raised alike", x.same(byZero), true);
        due("raised(false)", x.raised(false), 2);
        due("raised(true)", x.raised(true), 1);
        due("stored, then raised", x.same(x.node(11, plus, outside)), true);
        due("a loop that counts too far", x.same(x.node(13, number(x, 2000), plus)), true);
        due("raised(false)", x.raised(false), 2);
        due("the walk's storage", x.at(false, 0), 49);
        due("the code's storage", x.at(true, 0), 0);
        due("a value", x.same(one), true);
        due("no such node", x.same(0), false);
        due("no such node", x.same(199), false);
        due("the code stays", kept(x), "0,1");
        due("no place", x.same(over), false);
        due("then there is no code", kept(x), "");
        due("400 rows", x.same(x.node(9, 0, most)), true);
    }

    public static void main(String[] args) {
        newObject();
        cells();
        nodes();
        making();
        readingRows();
        storing();
        loading();
        running();
        noPlace();
        subscripts();
        raising();
        counting();
        longest();
        deepTrees();
        deepValues();
        atAndPut();
        fastRows();
        points();
        raisedOnes();
        sameOnes();
        System.out.println(wrong == 0 ? "all promises hold" : wrong + " answers are not as due");
        if (wrong != 0) {
            System.exit(1);
        }
    }
}
