/** For each sentence of promises 1 to 12: ordinary inputs, its boundaries, and refused calls. */
public final class PromiseTest {
    private static final int MOST = Integer.MAX_VALUE;
    private static final int LEAST = Integer.MIN_VALUE;
    private static final int[] OUTSIDE = {-1, 64, -64, 256, LEAST, MOST};

    // ---- promise 1

    private static void newObject() {
        Due.sentence("1: no cells");
        Calls x = new Calls();
        Due.is("says(0)", x.says(0), -2);
        Due.is("says(-1)", x.says(-1), -2);
        Due.is("node(9, 0, 1)", x.node(9, 0, x.number(1)), -2);
        Due.is("the first one", x.cell(0, 1, 0), 0);

        Due.sentence("1: no nodes");
        Calls y = new Calls();
        Due.is("make(0)", y.make(0), -2);
        Due.is("make(1)", y.make(1), -2);
        Due.is("run(false, 1)", y.run(false, 1), 0);
        Due.is("run(true, 1)", y.run(true, 1), 0);
        Due.is("same(1)", y.same(1), false);
        Due.is("node(11, 1, 1)", y.node(11, 1, 1), -2);
        Due.is("the first one", y.number(1), 1);

        Due.sentence("1: no code");
        Calls z = new Calls();
        Due.is("code(0, 0)", z.code(0, 0), -1);
        Due.is("code(0, 1)", z.code(0, 1), -1);
        Due.is("point(0)", z.point(0), -1);
        Due.is("fast(0)", z.fast(0), false);

        Due.sentence("1: objects have nothing in common");
        Calls first = new Calls();
        first.cell(0, 1, 0);
        first.put(0, 49);
        first.run(true, first.node(6, first.says(0), first.number(0)));
        Calls second = new Calls();
        Due.is("says(0)", second.says(0), -2);
        Due.is("make(1)", second.make(1), -2);
        Due.is("code(0, 0)", second.code(0, 0), -1);
        Due.is("raised(true)", second.raised(true), 0);
        Due.is("at(true, 0)", second.at(true, 0), 0);
    }

    // ---- promise 2

    private static void cell(Calls x, int usage, int digits, int place, int want) {
        Due.is("cell(" + usage + ", " + digits + ", " + place + ")", x.cell(usage, digits, place), want);
    }

    private static void cells() {
        Due.sentence("2: a new cell: its number");
        Calls x = new Calls();
        cell(x, 0, 3, 0, 0);
        cell(x, 1, 4, 8, 1);
        cell(x, 2, 9, 16, 2);
        cell(x, 2, 9, 16, 3);

        Due.sentence("2: -4 when usage is not so");
        Calls usages = new Calls();
        cell(usages, LEAST, 1, 0, -4);
        cell(usages, -1, 1, 0, -4);
        cell(usages, 0, 1, 0, 0);
        cell(usages, 1, 1, 0, 1);
        cell(usages, 2, 1, 0, 2);
        cell(usages, 3, 1, 0, -4);
        cell(usages, MOST, 1, 0, -4);

        Due.sentence("2: -4 when digits are not so");
        for (int usage = 0; usage <= 2; usage++) {
            Calls digits = new Calls();
            cell(digits, usage, LEAST, 0, -4);
            cell(digits, usage, -1, 0, -4);
            cell(digits, usage, 0, 0, -4);
            cell(digits, usage, 1, 0, 0);
            cell(digits, usage, 9, 0, 1);
            cell(digits, usage, 10, 0, -4);
            cell(digits, usage, MOST, 0, -4);
        }

        Due.sentence("2: -4 when not all of it is within the storage");
        int[][] lastPlaces = {{0, 1, 63}, {0, 2, 62}, {0, 8, 56}, {0, 9, 55}, {1, 1, 63}, {1, 2, 62}, {1, 3, 62},
            {1, 4, 61}, {1, 5, 61}, {1, 6, 60}, {1, 7, 60}, {1, 8, 59}, {1, 9, 59}, {2, 1, 60}, {2, 4, 60}, {2, 9, 60}};
        for (int[] l : lastPlaces) {
            Calls places = new Calls();
            cell(places, l[0], l[1], LEAST, -4);
            cell(places, l[0], l[1], -1, -4);
            cell(places, l[0], l[1], 0, 0);
            cell(places, l[0], l[1], l[2] - 1, 1);
            cell(places, l[0], l[1], l[2], 2);
            cell(places, l[0], l[1], l[2] + 1, -4);
            cell(places, l[0], l[1], 64, -4);
            cell(places, l[0], l[1], MOST - 3, -4);
            cell(places, l[0], l[1], MOST, -4);
        }
        tooManyCells();
    }

    private static void tooManyCells() {
        Due.sentence("2: NONE when there are 40");
        Calls x = new Calls();
        for (int i = 0; i < 40; i++) {
            cell(x, i % 3, 1 + i % 9, i, i);
        }
        cell(x, 0, 1, 0, -1);
        cell(x, 2, 9, 60, -1);
        Due.is("the 40th is there", x.says(39), 1);
        Due.is("a 41st is not", x.says(40), -2);

        Due.sentence("2: what is not so is -4, also when there are 40");
        cell(x, 3, 1, 0, -4);
        cell(x, 0, 10, 0, -4);
        cell(x, 0, 1, 64, -4);

        Due.sentence("2: a refused cell takes no number");
        Calls y = new Calls();
        cell(y, 0, 1, 0, 0);
        cell(y, 0, 1, 64, -4);
        Due.is("no second one", y.says(1), -2);
        cell(y, 0, 1, 63, 1);
    }

    // ---- promise 3

    private static void node(Calls x, int kind, int a, int b, int want) {
        Due.is("node(" + kind + ", " + a + ", " + b + ")", x.node(kind, a, b), want);
    }

    /** Cells 0 and 1; node 1 a value, 2 a storing, 3 an 11 of values, 4 .. 6 with statements in them. */
    private static Calls someNodes() {
        Calls x = new Calls();
        x.cell(0, 1, 0);
        x.cell(0, 1, 1);
        node(x, 0, 1, 0, 1);
        node(x, 9, 0, 1, 2);
        node(x, 11, 1, 1, 3);
        node(x, 11, 2, 1, 4);
        node(x, 11, 1, 2, 5);
        node(x, 11, 2, 2, 6);
        return x;
    }

    private static void nodes() {
        Due.sentence("3: a new node: its number");
        Calls x = someNodes();
        node(x, 10, 1, 3, 7);
        node(x, 12, 1, 2, 8);
        node(x, 13, 1, 8, 9);
        node(x, 2, 1, 1, 10);
        for (int kind = 3; kind <= 8; kind++) {
            node(x, kind, 10, 1, 8 + kind);
        }
        node(x, 12, 1, 1, 17);
        node(x, 13, 16, 1, 18);

        Due.sentence("3: -4 kind is not so");
        Calls y = new Calls();
        node(y, LEAST, 0, 0, -4);
        node(y, -1, 0, 0, -4);
        node(y, 0, 0, 0, 1);
        node(y, 13, 1, 1, 2);
        node(y, 14, 1, 1, -4);
        node(y, 15, 1, 1, -4);
        node(y, MOST, 1, 1, -4);
        node(y, 14, 99, 99, -4);

        Due.sentence("3: what the kind doesn't need is free");
        Calls z = someNodes();
        node(z, 0, LEAST, LEAST, 7);
        node(z, 0, MOST, MOST, 8);
        node(z, 1, 0, -1, 9);
        node(z, 1, 1, 999, 10);
        node(z, 1, 1, 2, 11);
    }

    private static void nodesOfNoCell() {
        Due.sentence("3: -2 a is no cell");
        for (int kind : new int[] {1, 2, 9, 10}) {
            Calls x = someNodes();
            int b = kind == 10 ? 3 : 1;
            node(x, kind, LEAST, b, -2);
            node(x, kind, -1, b, -2);
            node(x, kind, 2, b, -2);
            node(x, kind, 40, b, -2);
            node(x, kind, MOST, b, -2);
            node(x, kind, 0, b, 7);
            node(x, kind, 1, b, 8);
        }
    }

    private static void nodesOfNoNode() {
        Due.sentence("3: -2 a is no node");
        for (int kind : new int[] {3, 4, 5, 6, 7, 8, 11, 12, 13}) {
            Calls x = someNodes();
            for (int a : new int[] {LEAST, -1, 0, 7, 8, 200, 201, MOST}) {
                node(x, kind, a, 1, -2);
            }
            node(x, kind, 1, 1, 7);
            Due.is("the last node that there is", x.node(kind, kind < 9 ? 7 : 1, 1), 8);
        }
        Due.sentence("3: -2 b is no node");
        for (int kind : new int[] {2, 3, 4, 5, 6, 7, 8, 9, 10, 11, 12, 13}) {
            Calls x = someNodes();
            int a = kind == 2 || kind == 9 || kind == 10 ? 0 : 1;
            for (int b : new int[] {LEAST, -1, 0, 7, 8, 200, 201, MOST}) {
                node(x, kind, a, b, -2);
            }
            node(x, 11, 1, 1, 7);
            node(x, 0, 5, 5, 8);
            node(x, kind, a, kind == 10 ? 7 : 8, 9);
        }
    }

    private static void nodesOfStatements() {
        Due.sentence("3: -2 for 10, b is not of kind 11");
        for (int kind = 0; kind <= 13; kind++) {
            // By each kind a node both of whose numbers would do for sides of an 11.
            Calls y = someNodes();
            node(y, kind, 1, kind == 10 ? 3 : 1, 7);
            node(y, 10, 0, 7, kind == 11 ? 8 : -2);
        }
        Calls x = someNodes();
        int[] statements = {2, 3, x.node(12, 1, 2), x.node(13, 1, 2), x.storeBehind(0, 1, 1)};

        Due.sentence("3: -2 a statement where a value is taken, of 10's b");
        node(x, 10, 0, 4, -2);
        node(x, 10, 0, 5, -2);
        node(x, 10, 0, 6, -2);

        for (int s : statements) {
            Due.sentence("3: -2 a statement where a value is taken, b of 2, 9");
            node(x, 2, 0, s, -2);
            node(x, 9, 0, s, -2);
            Due.sentence("3: -2 a statement where a value is taken, sides of 3 .. 8");
            for (int kind = 3; kind <= 8; kind++) {
                node(x, kind, s, 1, -2);
                node(x, kind, 1, s, -2);
            }
            Due.sentence("3: -2 a statement where a value is taken, a of 12, 13");
            node(x, 12, s, 1, -2);
            node(x, 13, s, 1, -2);
        }

        Due.sentence("3: a refused node takes no number");
        node(x, 0, 1, 1, 11);
        Due.sentence("3: statements are free on both sides of 11, and as b of 12, 13");
        int next = 12;
        for (int s : statements) {
            node(x, 11, s, s, next);
            node(x, 12, 1, s, next + 1);
            node(x, 13, 1, s, next + 2);
            next += 3;
        }
    }

    private static void tooManyNodes() {
        Due.sentence("3: NONE when there are 200");
        Calls x = new Calls();
        x.cell(0, 1, 0);
        for (int i = 1; i <= 199; i++) {
            node(x, 0, i, 0, i);
        }
        node(x, 1, 0, 0, 200);
        node(x, 0, 1, 0, -1);
        node(x, 1, 0, 0, -1);
        node(x, 11, 200, 200, -1);
        Due.is("the 200th is there", x.rows(200), "1,0");
        Due.is("a 201st is not", x.make(201), -2);

        Due.sentence("3: what is not so is -4 or -2, also when there are 200");
        node(x, 14, 1, 1, -4);
        node(x, 1, 1, 0, -2);
        node(x, 3, 1, 201, -2);
        node(x, 10, 0, 1, -2);
    }

    // ---- promise 4

    private static void make(Calls x, String what, int root, int want) {
        Due.is("make of " + what, x.make(root), want);
        Due.is("the last row of " + what, x.code(want < 0 ? 0 : want - 1, 0) != -1, want > 0);
        Due.is("a row behind all of " + what, x.code(Math.max(want, 0), 0), -1);
    }

    /** A node of so many rows by every kind; more than 400 have no place. */
    private static void makesRows(int rows) {
        Calls x = new Calls();
        x.cell(0, 1, 0);
        int one = x.number(1);
        int store = x.node(9, 0, one);
        int want = rows <= 400 ? rows : -1;
        make(x, rows + " rows of 2 or 3", x.valueOfRows(0, rows), want);
        int oneLess = x.valueOfRows(0, rows - 1);
        int twoLess = x.valueOfRows(0, rows - 2);
        int threeLess = x.valueOfRows(0, rows - 3);
        int fourLess = x.valueOfRows(0, rows - 4);
        make(x, rows + " rows of 2", x.node(2, 0, oneLess), want);
        for (int kind = 3; kind <= 8; kind++) {
            make(x, rows + " rows of " + kind, x.node(kind, twoLess, one), want);
            make(x, rows + " rows of " + kind + ", b long", x.node(kind, one, twoLess), want);
        }
        make(x, rows + " rows of 9", x.node(9, 0, oneLess), want);
        make(x, rows + " rows of 10", x.storeBehind(0, twoLess, one), want);
        make(x, rows + " rows of 10, second side long", x.storeBehind(0, one, twoLess), want);
        make(x, rows + " rows of 11", x.node(11, store, threeLess), want);
        make(x, rows + " rows of 11, a long", x.node(11, threeLess, store), want);
        make(x, rows + " rows of 11 of values", x.node(11, threeLess, one), want);
        make(x, rows + " rows of 12", x.node(12, threeLess, store), want);
        make(x, rows + " rows of 12, b a long value", x.node(12, one, threeLess), want);
        make(x, rows + " rows of 13", x.node(13, fourLess, store), want);
        make(x, rows + " rows of 13, b a long value", x.node(13, one, fourLess), want);
    }

    private static void making() {
        Due.sentence("4: a node's code: how many rows");
        Calls x = new Calls();
        x.cell(0, 1, 0);
        int one = x.number(1);
        int store = x.node(9, 0, one);
        make(x, "a number", one, 1);
        make(x, "a storing", store, 2);
        make(x, "a loop", x.node(13, one, store), 5);

        Due.sentence("4: in place of the one before");
        Due.is("the loop's", x.kept(), "0,1 13,5 0,1 9,0 14,2");
        Due.is("the number's", x.rows(one), "0,1");
        Due.is("the number's, no more storing", x.point(0), -1);
        Due.is("the storing's", x.rows(store), "0,1 9,0");

        Due.sentence("4: -2 no such node");
        for (int root : new int[] {LEAST, -1, 0, 5, 200, 201, MOST}) {
            Due.is("make(" + root + ")", x.make(root), -2);
        }
        Due.is("make(1)", x.make(1), 1);
        Due.is("make of the last one", x.make(3), 5);
        Due.sentence("4: a refused node leaves the code as it is");
        Due.is("make(0)", x.make(0), -2);
        Due.is("the code before", x.kept(), "0,1 13,5 0,1 9,0 14,2");

        Due.sentence("4: NONE when there would be more than 400");
        makesRows(399);
        makesRows(400);
        makesRows(401);
        makesRows(402);
        Calls y = new Calls();
        y.cell(0, 1, 0);
        int shared = y.says(0);
        for (int i = 0; i < 150; i++) {
            shared = y.node(i % 2 == 0 ? 3 : 8, shared, shared);
        }
        Due.is("2 to the 150. rows", y.make(shared), -1);

        Due.sentence("4: then there is none");
        Due.is("a storing", y.make(y.node(9, 0, y.node(3, 1, 1))), 4);
        Due.is("too many", y.make(shared), -1);
        Due.is("code(0, 0)", y.code(0, 0), -1);
        Due.is("code(0, 1)", y.code(0, 1), -1);
        Due.is("fast(2)", y.fast(2), false);
        Due.is("point(0)", y.point(0), -1);
        Due.is("another one behind it", y.make(1), 1);
        Due.is("its row", y.kept(), "1,0");
    }

    // ---- promise 5

    private static void readingRows() {
        Due.sentence("5: what = 0 its op, NONE for others");
        Calls x = new Calls();
        x.cell(2, 9, 0);
        x.cell(2, 9, 4);
        x.make(x.node(9, 1, x.number(-7)));
        Due.is("code(0, 0)", x.code(0, 0), 0);
        Due.is("code(1, 0)", x.code(1, 0), 9);
        Due.is("code(0, 1)", x.code(0, 1), -7);
        Due.is("code(1, 1)", x.code(1, 1), 1);
        for (int what : new int[] {LEAST, -1, 2, 3, MOST}) {
            Due.is("code(0, " + what + ")", x.code(0, what), -1);
            Due.is("code(1, " + what + ")", x.code(1, what), -1);
        }

        Due.sentence("5: NONE when there is no such row");
        for (int i : new int[] {LEAST, -1, 2, 3, 399, 400, MOST}) {
            Due.is("code(" + i + ", 0)", x.code(i, 0), -1);
            Due.is("code(" + i + ", 1)", x.code(i, 1), -1);
        }
        Calls full = new Calls();
        full.cell(0, 1, 0);
        full.make(full.node(9, 0, full.valueOfRows(0, 399)));
        Due.is("code(398, 0) of 400", full.code(398, 0), 3);
        Due.is("code(399, 0) of 400", full.code(399, 0), 9);
        Due.is("code(399, 1) of 400", full.code(399, 1), 0);
        Due.is("code(400, 0) of 400", full.code(400, 0), -1);
        Due.is("code(400, 1) of 400", full.code(400, 1), -1);

        Due.sentence("5: 1 the lowest 32 bits of its number");
        long[] numbers = {0, -1, LEAST, MOST, 1L << 31, (1L << 32) - 1, 1L << 32, (1L << 32) + 1, -(1L << 31) - 1,
            -(1L << 32), 0x123456789abcdef0L, Long.MIN_VALUE, Long.MAX_VALUE, Long.MIN_VALUE + 1};
        for (long number : numbers) {
            Calls y = new Calls();
            Due.is("rows of " + number, y.make(y.whole(number)), 1);
            Due.is("op of " + number, y.code(0, 0), 0);
            Due.is("lowest bits of " + number, y.code(0, 1), (int) number);
        }
    }

    // ---- promise 6

    private static void running() {
        Due.sentence("6: walked on its storage");
        Calls x = new Calls();
        x.cell(0, 2, 10);
        int five = x.number(5);
        int plus = x.node(9, 0, x.node(3, x.says(0), five));
        Due.is("the walk", x.run(false, plus), 1);
        Due.is("its storage", x.bytes(false, 10, 2), "48 53");
        Due.is("not the code's", x.bytes(true, 10, 2), "0 0");
        Due.is("a walk makes no code", x.kept(), "");

        Due.sentence("6: by code on the other one");
        Due.is("by code", x.run(true, plus), 1);
        Due.is("by code, twice", x.run(true, plus), 1);
        Due.is("its storage", x.bytes(true, 10, 2), "49 48");
        Due.is("not the walk's", x.bytes(false, 10, 2), "48 53");

        Due.sentence("6: made anew, and kept as by make()");
        Due.is("its code", x.kept(), "1,0 0,5 3,0 9,0");
        Due.is("another code", x.make(five), 1);
        Due.is("a walk", x.run(false, plus), 1);
        Due.is("a walk leaves the code", x.kept(), "0,5");
        Due.is("by code, made anew", x.run(true, plus), 1);
        Due.is("its code", x.kept(), "1,0 0,5 3,0 9,0");
        Due.is("another one by code", x.run(true, five), 1);
        Due.is("its code", x.kept(), "0,5");

        Due.sentence("6: 1 it ended; 2 it was raised");
        int byZero = x.node(6, five, x.number(0));
        Due.is("a value, walked", x.run(false, five), 1);
        Due.is("a value, by code", x.run(true, five), 1);
        Due.is("by zero, by code, behind a walk that ended", x.run(true, byZero), 2);
        Due.is("a raised one's code", x.kept(), "0,5 0,0 6,0");
        Due.is("a value, walked, behind a code that was raised", x.run(false, five), 1);
        Due.is("by zero, walked", x.run(false, byZero), 2);
        Due.is("a value, by code, behind a walk that was raised", x.run(true, five), 1);
        Due.is("by zero, walked, behind a code that ended", x.run(false, byZero), 2);
        Due.is("ended behind raised, walked", x.run(false, plus), 1);
    }

    private static void notRun() {
        Due.sentence("6: 0 when there is no such node");
        Calls x = new Calls();
        x.cell(0, 1, 0);
        int store = x.node(9, 0, x.number(1));
        for (int root : new int[] {LEAST, -1, 0, 3, 4, 200, 201, MOST}) {
            Due.is("run(false, " + root + ")", x.run(false, root), 0);
            Due.is("run(true, " + root + ")", x.run(true, root), 0);
        }
        Due.is("nothing was done", x.bytesOnBoth(0, 1), "0");
        Due.is("run(false, 1)", x.run(false, 1), 1);
        Due.is("run(true, 1)", x.run(true, 1), 1);
        Due.is("run(false, the last)", x.run(false, store), 1);
        Due.is("run(true, the last)", x.run(true, store), 1);
        Due.is("no such node by code", x.run(true, 3), 0);
        Due.is("leaves the code, as make() does", x.kept(), "0,1 9,0");

        Due.sentence("6: 0 when there is no place for its code");
        Calls y = new Calls();
        y.cell(0, 1, 0);
        y.cell(0, 1, 1);
        int store398 = y.node(11, y.node(9, 1, y.number(1)), y.node(9, 0, y.valueOfRows(0, 395)));
        int store400 = y.node(11, store398, y.node(9, 0, y.number(4)));
        int store401 = y.node(11, store398, y.node(9, 0, y.node(2, 0, y.number(5))));
        Due.is("398 rows", y.make(store398), 398);
        Due.is("400 rows, walked", y.run(false, store400), 1);
        Due.is("400 rows, by code", y.run(true, store400), 1);
        Due.is("what they stored", y.bytesOnBoth(0, 2), "52 49");
        y.put(0, 48);
        y.put(1, 48);
        int byZero = y.node(6, 1, y.number(0));
        Due.is("raised ahead of it, walked", y.run(false, byZero), 2);
        Due.is("raised ahead of it, by code", y.run(true, byZero), 2);
        Due.is("401 rows, walked", y.run(false, store401), 0);
        Due.is("a walk leaves the code", y.code(2, 0), 6);
        Due.is("401 rows, by code", y.run(true, store401), 0);

        Due.sentence("6: nothing was done; by code, make()'s answer counts");
        Due.is("nothing was stored", y.bytesOnBoth(0, 2), "48 48");
        Due.is("raised(false)", y.raised(false), 2);
        Due.is("raised(true)", y.raised(true), 2);
        Due.is("then there is no code", y.code(0, 0), -1);
        Due.is("walked behind it", y.run(false, store400), 1);
        Due.is("by code behind it", y.run(true, store400), 1);
    }

    /** As many steps as a run can need: a long node, as often as can be counted. */
    private static void longestRuns() {
        Due.sentence("6: the longest run ends");
        Calls x = new Calls();
        x.cell(0, 1, 0);
        x.cell(0, 1, 1);
        int loop = x.times(999, x.valueOfRows(0, 394));
        int store = x.node(9, 1, x.number(7));
        Due.is("rows", x.make(x.node(11, loop, store)), 400);
        Due.is("999 times 394 rows, and a storing", x.both(x.node(11, loop, store)), 0);
        Due.is("it was stored", x.byteOnBoth(1), 55);
        Calls y = new Calls();
        int shared = y.number(1);
        for (int i = 0; i < 198; i++) {
            shared = y.node(4 - i % 2, shared, shared);
        }
        Due.is("2 to the 198. numbers, folded", y.both(shared), 0);
    }

    /** Values that runs end with, or were raised amid, must not pile up. */
    private static void manyRuns() {
        Due.sentence("6: a run leaves nothing for the next one but its storage");
        for (int ending = 0; ending < 3; ending++) {
            Calls x = new Calls();
            x.cell(0, 1, 0);
            int one = x.number(1);
            int sum = x.node(3, x.says(0), one);
            int byZero = x.node(3, sum, x.node(6, one, x.number(0)));
            int root = ending == 0 ? one : ending == 1 ? byZero : x.times(2, byZero);
            while (x.left() > 60) {
                Due.is("a run by code", x.run(true, root), ending == 0 ? 1 : 2);
            }
            Due.is("a storing behind them", x.both(x.node(9, 0, sum)), 0);
            Due.is("it was stored", x.byteOnBoth(0), 49);
            Due.is("a loop behind them", x.both(x.times(3, x.node(9, 0, sum))), 0);
            Due.is("it was done three times", x.byteOnBoth(0), 52);
        }
    }

    /** Every node deeper than the one before: the deepest trees that 200 nodes can be. */
    private static void deepestTrees() {
        Due.sentence("6: the deepest trees are run");
        for (int kind : new int[] {2, 3, 4, 5, 6, 7, 8, 11, 12, 13}) {
            Calls x = new Calls();
            x.cell(0, 1, 0);
            x.put(0, 48);
            int cell = x.says(0);
            int node = x.node(kind, kind == 2 ? 0 : cell, cell);
            // The rows of 13 would be more than 400 before the nodes are 200.
            int last = kind == 13 ? 100 : 200;
            while (node < last) {
                node = x.node(kind, kind == 2 ? 0 : cell, node);
            }
            Due.is("depth of kind " + kind, x.both(node), kind == 6 ? 2 : 0);
        }
        Calls loops = new Calls();
        loops.cell(0, 1, 0);
        int one = loops.number(1);
        int inner = loops.node(9, 0, one);
        for (int i = 0; i < 132; i++) {
            inner = loops.node(13, one, inner);
        }
        Due.is("132 loops within one another", loops.both(inner), 0);
        Due.is("stored within all", loops.byteOnBoth(0), 49);
        Calls sums = new Calls();
        sums.cell(0, 1, 0);
        sums.cell(0, 3, 1);
        sums.put(0, 49);
        int cell = sums.says(0);
        int sum = cell;
        while (sum < 199) {
            sum = sums.node(3, cell, sum);
        }
        Due.is("199 ones, the last first", sums.both(sums.node(9, 1, sum)), 0);
        Due.is("199", sums.bytesOnBoth(1, 3), "49 57 57");
        Calls ifs = new Calls();
        ifs.cell(0, 1, 0);
        one = ifs.number(1);
        int store = ifs.node(9, 0, one);
        while (store < 200) {
            store = ifs.node(12, one, store);
        }
        Due.is("a storing within 198 conditions", ifs.both(store), 0);
        Due.is("stored", ifs.byteOnBoth(0), 49);
    }

    private static void whatRaisesFirst() {
        Due.sentence("6: what raises first is what was raised");
        Calls x = new Calls();
        x.cell(0, 1, 0);
        int one = x.number(1);
        int byZero = x.node(6, one, x.number(0));
        int outside = x.node(2, 0, x.number(64));
        int endless = x.times(1001, one);
        int[][] cases = {
            {x.node(3, byZero, outside), 2}, {x.node(3, outside, byZero), 1}, {x.node(8, byZero, outside), 2},
            {x.node(6, outside, x.number(0)), 1}, {x.node(6, byZero, outside), 2}, {x.node(2, 0, byZero), 2},
            {x.node(9, 0, byZero), 2}, {x.node(9, 0, outside), 1}, {x.node(12, byZero, outside), 2},
            {x.node(13, byZero, outside), 2}, {x.node(12, one, outside), 1}, {x.node(13, one, byZero), 2},
            {x.node(11, outside, byZero), 1}, {x.node(11, byZero, outside), 2}, {x.node(11, endless, byZero), 3},
            {x.node(11, outside, endless), 1}};
        for (int[] c : cases) {
            Due.is("raised of node " + c[0], x.both(c[0]), c[1]);
        }
    }

    // ---- promises 7 and 8

    private static void atPlaces() {
        Due.sentence("7: a byte of a storage");
        Calls x = new Calls();
        for (int place = 0; place < 64; place++) {
            x.put(place, place * 4 - 128);
        }
        for (int place = 0; place < 64; place++) {
            Due.is("at(false, " + place + ")", x.at(false, place), place * 4 - 128);
            Due.is("at(true, " + place + ")", x.at(true, place), place * 4 - 128);
        }
        x.cell(0, 1, 63);
        x.run(true, x.node(9, 0, x.number(2)));
        Due.is("the code's", x.at(true, 63), 50);
        Due.is("the walk's", x.at(false, 63), 124);

        Due.sentence("7: ArrayIndexOutOfBoundsException outside");
        for (int place : OUTSIDE) {
            Due.is("at(false, " + place + ")", x.thrownAt(false, place), "ArrayIndexOutOfBoundsException");
            Due.is("at(true, " + place + ")", x.thrownAt(true, place), "ArrayIndexOutOfBoundsException");
        }
        for (int place : new int[] {0, 1, 62, 63}) {
            Due.is("at(false, " + place + ")", x.thrownAt(false, place), "");
            Due.is("at(true, " + place + ")", x.thrownAt(true, place), "");
        }
    }

    private static void puts() {
        Due.sentence("8: a byte of both storages becomes b: 1");
        Calls x = new Calls();
        for (int place : new int[] {0, 1, 62, 63}) {
            for (int b : new int[] {127, -128, -1, 0, 1}) {
                Due.is("put(" + place + ", " + b + ")", x.put(place, b), 1);
                Due.is("at " + place, x.byteOnBoth(place), b);
            }
        }
        x.cell(0, 1, 3);
        x.run(true, x.node(9, 0, x.number(2)));
        Due.is("where they are not alike", x.put(3, 99), 1);
        Due.is("they become so", x.byteOnBoth(3), 99);

        Due.sentence("8: -4 when place is outside");
        Calls y = new Calls();
        for (int place : OUTSIDE) {
            Due.is("put(" + place + ", 1)", y.put(place, 1), -4);
        }
        Due.is("nothing was put", y.bytesOnBoth(0, 64), "0" + " 0".repeat(63));
    }

    // ---- promises 9 and 10

    private static void fastRows() {
        Due.sentence("9: whether row i of the code is fast");
        Calls x = new Calls();
        x.cell(0, 9, 0);
        x.cell(2, 9, 0);
        int nine = x.says(0);
        int ten = x.says(1);
        int eighteen = x.node(5, nine, nine);
        int nineteen = x.node(5, nine, ten);
        int count = x.make(x.node(9, 0, x.node(4, eighteen, x.node(6, nineteen, nine))));
        boolean[] want = {false, false, true, false, false, false, false, false, false, false};
        Due.is("rows", count, want.length);
        for (int i = 0; i < want.length; i++) {
            Due.is("fast(" + i + ")", x.fast(i), want[i]);
        }
        x.make(x.node(9, 0, x.node(3, nine, nine)));
        Due.is("another code's sum", x.fast(2), true);
        x.make(nineteen);
        Due.is("another code's product", x.fast(2), false);

        Due.sentence("9: a row that there is not is not fast");
        x.make(eighteen);
        Due.is("the last row", x.fast(2), true);
        for (int i : new int[] {LEAST, -1, 3, 4, 399, 400, MOST}) {
            Due.is("fast(" + i + ")", x.fast(i), false);
        }
        x.make(nine);
        Due.is("a row of the code before", x.fast(2), false);
        Calls full = new Calls();
        full.cell(0, 1, 0);
        int sum = full.node(3, full.says(0), full.node(2, 0, full.valueOfRows(0, 397)));
        Due.is("rows", full.make(sum), 400);
        Due.is("fast(399) of 400", full.fast(399), true);
        Due.is("fast(398) of 400, a cell's", full.fast(398), false);
        Due.is("fast(400) of 400", full.fast(400), false);
    }

    private static void points() {
        Due.sentence("10: the row of the i-th storing (9, 10) in the code, from 0 on");
        Calls x = new Calls();
        x.cell(0, 1, 0);
        int one = x.number(1);
        int store = x.node(9, 0, one);
        int behind = x.storeBehind(0, one, one);
        int root = x.node(11, store, x.node(12, one, x.node(11, behind, x.node(13, one, store))));
        Due.is("the rows", x.rows(root), "0,1 9,0 0,1 12,12 0,1 0,1 10,0 0,1 13,12 0,1 9,0 14,9");
        Due.is("point(0)", x.point(0), 1);
        Due.is("point(1)", x.point(1), 6);
        Due.is("point(2)", x.point(2), 10);

        Due.sentence("10: NONE when there is none");
        for (int i : new int[] {LEAST, -1, 3, 4, 12, 400, MOST}) {
            Due.is("point(" + i + ")", x.point(i), -1);
        }
        x.make(one);
        Due.is("a code without storings", x.point(0), -1);
        x.make(store);
        Due.is("another code's", x.point(0), 1);
        Due.is("no more of it", x.point(1), -1);
        Due.is("no code", new Calls().point(0), -1);

        Due.sentence("10: as many storings as there can be");
        Calls full = new Calls();
        full.cell(0, 1, 0);
        int[] doubled = new int[8];
        doubled[0] = full.node(9, 0, full.number(1));
        for (int i = 1; i < 8; i++) {
            doubled[i] = full.node(11, doubled[i - 1], doubled[i - 1]);
        }
        int most = full.node(11, doubled[7], full.node(11, doubled[6], doubled[3]));
        Due.is("rows of 200 storings", full.make(most), 400);
        Due.is("point(0)", full.point(0), 1);
        Due.is("point(198)", full.point(198), 397);
        Due.is("point(199)", full.point(199), 399);
        Due.is("point(200)", full.point(200), -1);
    }

    // ---- promise 11

    private static void raisedOnes() {
        Due.sentence("11: 0 when there was none");
        Calls x = new Calls();
        Due.is("raised(false)", x.raised(false), 0);
        Due.is("raised(true)", x.raised(true), 0);

        Due.sentence("11: what the latest run raised, of the walk or by code");
        x.cell(0, 1, 0);
        int one = x.number(1);
        int outside = x.node(2, 0, x.number(64));
        int byZero = x.node(6, one, x.number(0));
        int endless = x.node(13, x.number(1001), one);
        int[] raising = {0, outside, byZero, endless};
        for (int why = 1; why <= 3; why++) {
            int other = why % 3 + 1;
            x.run(false, raising[why]);
            x.run(true, raising[other]);
            Due.is("raised(false)", x.raised(false), why);
            Due.is("raised(true)", x.raised(true), other);
        }
        x.run(false, byZero);
        Due.is("raised(false), walked again", x.raised(false), 2);
        Due.is("raised(true), not run again", x.raised(true), 1);

        Due.sentence("11: calls that run nothing leave it");
        x.make(one);
        x.put(0, 1);
        Due.is("no such node", x.run(true, 99), 0);
        Due.is("no such node", x.run(false, 99), 0);
        x.same(endless);
        x.same(one);
        Due.is("raised(false)", x.raised(false), 2);
        Due.is("raised(true)", x.raised(true), 1);

        Due.sentence("11: 0 when it ended");
        x.run(true, one);
        Due.is("raised(true)", x.raised(true), 0);
        Due.is("raised(false), not run", x.raised(false), 2);
        x.run(false, one);
        Due.is("raised(false)", x.raised(false), 0);
    }

    // ---- promise 12

    private static void sameOnes() {
        Due.sentence("12: would leave the same bytes, and raise the same");
        Calls x = new Calls();
        x.cell(0, 1, 0);
        int one = x.number(1);
        int plus = x.node(9, 0, x.node(3, x.says(0), one));
        int byZero = x.node(6, one, x.number(0));
        int outside = x.node(2, 0, x.number(64));
        Due.is("a value", x.same(one), true);
        Due.is("a storing", x.same(plus), true);
        Due.is("outside", x.same(outside), true);
        Due.is("by zero", x.same(byZero), true);
        Due.is("too many counts", x.same(x.node(13, x.number(2000), plus)), true);
        Due.is("stored, then raised", x.same(x.node(11, plus, outside)), true);

        Due.sentence("12: both from the walk's storage as it is");
        x.run(false, plus);
        x.run(false, byZero);
        x.run(true, outside);
        Due.is("a storing", x.same(plus), true);
        Due.is("by the walk's cell, which alone is not 0", x.same(x.node(6, one, x.says(0))), true);

        Due.sentence("12: nothing changes");
        Due.is("a storing", x.same(plus), true);
        Due.is("the walk's storage", x.bytes(false, 0, 64), "49" + " 0".repeat(63));
        Due.is("the code's storage", x.bytes(true, 0, 64), "0" + " 0".repeat(63));
        Due.is("raised(false)", x.raised(false), 2);
        Due.is("raised(true)", x.raised(true), 1);

        Due.sentence("12: but the code is that node's");
        Due.is("its code", x.kept(), "1,0 0,1 3,0 9,0");
        Due.is("by zero", x.same(byZero), true);
        Due.is("its code", x.kept(), "0,1 0,0 6,0");
        sameOfNone();
    }

    private static void sameOfNone() {
        Due.sentence("12: false when run() answers 0");
        Calls x = new Calls();
        x.cell(0, 1, 0);
        int one = x.number(1);
        int value399 = x.valueOfRows(0, 399);
        int value400 = x.node(2, 0, value399);
        int value401 = x.node(3, value399, one);
        Due.is("399 rows", x.same(value399), true);
        Due.is("400 rows", x.same(value400), true);
        Due.is("401 rows", x.same(value401), false);
        Due.is("then there is no code", x.code(0, 0), -1);
        Due.is("one row", x.same(one), true);
        for (int root : new int[] {LEAST, -1, 0, value401 + 1, 200, 201, MOST}) {
            Due.is("same(" + root + ")", x.same(root), false);
        }
        Due.is("no such node leaves the code", x.kept(), "0,1");
        Due.is("raised(false)", x.raised(false), 0);
        Due.is("raised(true)", x.raised(true), 0);
    }

    /** The 512th call is the last one that is promised. */
    private static void lastCall() {
        Due.sentence("an object is used for at most 512 calls");
        Calls x = new Calls();
        x.cell(0, 1, 0);
        int plus = x.node(9, 0, x.node(3, x.says(0), x.number(1)));
        while (x.left() > 4) {
            Due.is("a call", x.run(true, plus), 1);
        }
        Due.is("the 509th", x.at(true, 0), 51);
        Due.is("the 510th", x.run(true, plus), 1);
        Due.is("the 511th", x.number(1), 5);
        Due.is("the 512th", x.at(true, 0), 52);
    }

    public static void main(String[] args) {
        newObject();
        cells();
        nodes();
        nodesOfNoCell();
        nodesOfNoNode();
        nodesOfStatements();
        tooManyNodes();
        making();
        readingRows();
        running();
        notRun();
        longestRuns();
        manyRuns();
        deepestTrees();
        whatRaisesFirst();
        atPlaces();
        puts();
        fastRows();
        points();
        raisedOnes();
        sameOnes();
        lastCall();
        Due.end();
    }
}
