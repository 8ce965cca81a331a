/** Ops 12 to 50: HOLDS, new THINGS, ITEMS, kinds. Promises 6, 10, 12, 13. */
public final class RowsTest {
    private static final Due DUE = new Due();
    private static final int NULL = -11, INDEX = -12, CAST = -13, STORE = -14, SIZE = -15, ROOM = -19, KIND = -20;

    public static void main(String[] args) {
        holds();
        newRows();
        rowsOfRows();
        roomOfThings();
        items();
        itemsRefused();
        thingItems();
        lengths();
        anyItems();
        moves();
        copies();
        kinds();
        sameness();
        DUE.finish();
    }

    private static void due(String call, long got, long want) {
        DUE.due(call, got, want);
    }

    private static int[] act(int op, int a, int b, int c) {
        return Bench.act(op, a, b, c);
    }

    private static void holds() {
        Bench w = new Bench();
        due("18", w.run(act(18, 0, 0, 0), act(12, 5, -9, 0), act(13, 0, -1, 99)), 0);
        due("12", w.x.hold(0, 5), 0);
        due("13", w.x.hold(0, 0), -1);
        due("12 of none", w.run(act(12, 5, 0, 1)), 0);
        due("12 of none", w.x.hold(0, 5), -1);
    }

    private static void newRows() {
        for (int sort = 0; sort < 13; sort++) {
            int op = sort < 8 ? 14 : 15;
            int b = sort < 8 ? sort : sort - 8;
            Bench w = new Bench();
            for (int n = 0; n <= 12; n++) {
                due("new ROW", w.run(act(0, 0, n, 0), act(op, 1, b, 0)), 0);
                due("its number", w.x.hold(0, 1), n);
                due("SORT", w.x.thing(n, 0), sort);
                due("ITEMS", w.x.thing(n, 1), n);
                due("no lock", w.x.thing(n, 2), -1);
                due("no lock", w.x.thing(n, 3), 0);
                for (int i = 0; i < n; i++) {
                    due("a new ITEM", w.x.item(n, i), sort < 8 ? 0 : -1);
                }
                due("behind the last", w.x.item(n, n), Long.MIN_VALUE);
            }
            due("13", w.run(act(0, 0, 13, 0), act(op, 2, b, 0)), ROOM);
            due("-1", w.run(act(0, 0, -1, 0), act(op, 2, b, 0)), SIZE);
            w.setNumber(0, 1L << 32);
            due("2 to the 32", w.run(act(op, 2, b, 0)), ROOM);
            w.setNumber(0, -(1L << 32) + 2);
            due("far below", w.run(act(op, 2, b, 0)), SIZE);
            due("nothing is made", w.x.count(0), 13);
            due("nothing is held", w.x.hold(0, 2), -1);
        }
    }

    private static void rowsOfRows() {
        for (int op = 16; op <= 17; op++) {
            Bench w = new Bench();
            int[] two = act(0, 1, 2, 0);
            due("3 of 2", w.run(act(0, 0, 3, 0), two, act(op, 4, 0, 1)), 0);
            due("things", w.x.count(0), 4);
            due("held", w.x.hold(0, 4), 0);
            due("SORT", w.x.thing(0, 0), op - 3);
            due("ITEMS", w.x.thing(0, 1), 3);
            for (int i = 0; i < 3; i++) {
                due("behind it, in order", w.x.item(0, i), i + 1);
                due("its SORT", w.x.thing(i + 1, 0), op == 16 ? 4 : 7);
                due("its ITEMS", w.x.thing(i + 1, 1), 2);
            }
            due("0 of 12", w.run(act(0, 0, 0, 0), act(0, 1, 12, 0), act(op, 4, 0, 1)), 0);
            due("things", w.x.count(0), 5);
            due("7 of 2", w.run(act(0, 0, 7, 0), two, act(op, 5, 0, 1)), ROOM);
            due("0 of 13", w.run(act(0, 0, 0, 0), act(0, 1, 13, 0), act(op, 5, 0, 1)), ROOM);
            due("-1 of 13: first ROOM", w.run(act(0, 0, -1, 0), act(0, 1, 13, 0), act(op, 5, 0, 1)), ROOM);
            due("7 of -1: first ROOM", w.run(act(0, 0, 7, 0), act(0, 1, -1, 0), act(op, 5, 0, 1)), ROOM);
            due("-1 of 2", w.run(act(0, 0, -1, 0), two, act(op, 5, 0, 1)), SIZE);
            due("0 of -1", w.run(act(0, 0, 0, 0), act(0, 1, -1, 0), act(op, 5, 0, 1)), SIZE);
            due("6 of 0", w.run(act(0, 0, 6, 0), act(0, 1, 0, 0), act(op, 5, 0, 1)), 0);
            due("things", w.x.count(0), 12);
        }
    }

    private static void roomOfThings() {
        Bench w = new Bench();
        w.run(act(0, 0, 6, 0), act(0, 1, 0, 0));
        for (int i = 0; i < 22; i++) {
            w.run(act(16, 0, 0, 1));
        }
        due("things", w.x.count(0), 154);
        due("6 more and their ROW", w.run(act(16, 1, 0, 1)), ROOM);
        due("5 more and their ROW", w.run(act(0, 0, 5, 0), act(16, 1, 0, 1)), 0);
        for (int[] last : new int[][] {act(14, 0, 4, 0), act(15, 0, 4, 0), act(18, 0, 4, 0), act(47, 0, 1, 0),
            act(17, 0, 1, 1)}) {
            Bench v = new Bench();
            v.run(act(0, 0, 6, 0), act(0, 1, 0, 0));
            for (int i = 0; i < 22; i++) {
                v.run(act(16, 1, 0, 1));
            }
            v.run(act(0, 0, 4, 0), act(16, 1, 0, 1), act(0, 0, 0, 0));
            due("159 things", v.x.count(0), 159);
            due("the last by " + last[0], v.run(last), 0);
            due("160 things", v.x.count(0), 160);
            due("one more by " + last[0], v.run(last), ROOM);
        }
        due("things", w.x.count(0), 160);
        due("18", w.run(act(18, 2, 0, 0)), ROOM);
        due("14", w.run(act(14, 2, 0, 1)), ROOM);
        due("47", w.run(act(47, 2, 1, 0)), ROOM);
        due("14 of -1: first ROOM", w.run(act(0, 2, -1, 0), act(14, 2, 0, 2)), ROOM);
        due("16 of -1: its ROW has no room", w.run(act(0, 2, -1, 0), act(16, 2, 2, 1)), ROOM);
        due("47 of none: first NULL", w.run(act(47, 2, 7, 0)), NULL);
        due("160", w.x.thing(160, 0), -2);
        due("159", w.x.thing(159, 0), 4);
        due("clear", w.x.clear(), 160);
        due("-1 of 0, with room for one", w.run(act(0, 0, -1, 0), act(16, 1, 0, 1)), SIZE);
    }

    private static void items() {
        long v = 0x123456789abcd8f0L;
        long[] kept = {1, (byte) v, (short) v, (char) v, (int) v, v};
        for (int k = 0; k < 6; k++) {
            Bench w = new Bench();
            w.setNumber(0, v);
            w.run(act(0, 1, 3, 0), act(14, 0, k, 1), act(0, 2, 2, 0));
            due("write", w.run(act(28 + k, 0, 0, 2), act(20 + k, 3, 0, 2)), 0);
            due("read", w.x.number(0, 3), kept[k]);
            due("item", w.x.item(0, 2), kept[k]);
            due("another", w.x.item(0, 1), 0);
            w.setNumber(0, -1L << 16);
            w.run(act(28 + k, 0, 0, 2));
            long[] next = {1, 0, 0, 0, -1L << 16, -1L << 16};
            due("item", w.x.item(0, 2), next[k]);
            w.run(act(0, 0, 0, 0), act(28 + k, 0, 0, 2));
            due("0", w.x.item(0, 2), 0);
        }
        Bench w = new Bench();
        w.setNumber(0, 1L << 40);
        due("a truth by a high bit", w.run(act(0, 1, 1, 0), act(14, 0, 0, 1), act(0, 1, 0, 0), act(28, 0, 0, 1)), 0);
        due("a truth by a high bit", w.x.item(0, 0), 1);
        w = new Bench();
        due("floats", w.run(act(2, 0, -3, -1), act(0, 1, 2, 0), act(14, 0, 6, 1), act(0, 2, 1, 0), act(34, 0, 0, 2),
            act(26, 3, 0, 2)), 0);
        due("item", w.x.item(0, 1), Float.floatToIntBits(-1.5f));
        due("small", w.x.small(0, 3), Float.floatToIntBits(-1.5f));
        w = new Bench();
        due("doubles", w.run(act(1, 0, -3, -60), act(0, 1, 2, 0), act(14, 0, 7, 1), act(0, 2, 1, 0), act(35, 0, 0, 2),
            act(27, 3, 0, 2)), 0);
        due("item", w.x.item(0, 1), Double.doubleToLongBits(-3 * 0x1p-60));
        due("real", w.x.real(0, 3), Double.doubleToLongBits(-3 * 0x1p-60));
    }

    private static void itemsRefused() {
        for (int k = 0; k < 8; k++) {
            for (int op = 20 + k; op <= 28 + k; op += 8) {
                Bench w = new Bench();
                w.run(act(0, 0, 2, 0), act(14, 0, k, 0), act(0, 1, 1, 0));
                due("ok", w.run(act(op, 0, 0, 1)), 0);
                due("at 2", w.run(act(0, 1, 2, 0), act(op, 0, 0, 1)), INDEX);
                due("at -1", w.run(act(0, 1, -1, 0), act(op, 0, 0, 1)), INDEX);
                w.setNumber(1, 1L << 32);
                due("all bits count", w.run(act(op, 0, 0, 1)), INDEX);
                due("none: first NULL", w.run(act(op, 0, 7, 1)), NULL);
                for (int other = 0; other < 8; other++) {
                    w.run(act(0, 0, 2, 0), act(14, 2, other, 0), act(0, 1, 1, 0));
                    due("SORT " + other + " as " + k, w.run(act(op, 0, 2, 1)), other == k ? 0 : CAST);
                }
                w.run(act(0, 1, 9, 0), act(18, 3, 0, 0), act(15, 4, 0, 0), act(16, 5, 0, 0));
                due("an OBJECT: first CAST", w.run(act(op, 0, 3, 1)), CAST);
                due("a ROW of NODES", w.run(act(op, 0, 4, 1)), CAST);
                due("a ROW of ROWS", w.run(act(op, 0, 5, 1)), CAST);
            }
        }
    }

    private static void thingItems() {
        Bench w = new Bench();
        w.run(act(0, 0, 2, 0), act(0, 1, 1, 0), act(0, 2, 2, 0));
        // 0 a ROW of LEAVES, 1 a TWIG, 2 a STONE, 3 a ROW of 2 ROWS of ints (4, 5), 6 of doubles (7, 8)
        w.run(act(15, 0, 1, 0), act(18, 1, 3, 0), act(18, 2, 4, 0), act(16, 3, 0, 0), act(17, 4, 0, 0));
        due("a TWIG among LEAVES", w.run(act(39, 1, 0, 1), act(36, 5, 0, 1)), 0);
        due("it is there", w.x.item(0, 1), 1);
        due("it is taken", w.x.hold(0, 5), 1);
        due("a STONE: STORE", w.run(act(39, 2, 0, 1)), STORE);
        due("a STONE behind: INDEX", w.run(act(39, 2, 0, 2)), INDEX);
        due("a STONE into none: NULL", w.run(act(39, 2, 7, 2)), NULL);
        due("a ROW into none: CAST", w.run(act(39, 3, 7, 2)), CAST);
        due("a ROW into LEAVES: CAST", w.run(act(39, 3, 0, 1)), CAST);
        due("a TWIG into a TWIG: CAST", w.run(act(39, 1, 1, 1)), CAST);
        due("it is there still", w.x.item(0, 1), 1);
        due("none", w.run(act(39, 7, 0, 1)), 0);
        due("none is there", w.x.item(0, 1), -1);
        due("36 of a ROW of ROWS", w.run(act(36, 5, 3, 1)), CAST);
        due("36 of none", w.run(act(36, 5, 7, 1)), NULL);
        due("36 behind", w.run(act(36, 5, 0, 2)), INDEX);
        due("37", w.run(act(37, 5, 3, 1)), 0);
        due("37", w.x.hold(0, 5), 5);
        due("37 of doubles", w.run(act(37, 5, 4, 1)), CAST);
        due("38", w.run(act(38, 6, 4, 0)), INDEX);
        due("38", w.run(act(38, 6, 4, 1)), 0);
        due("38", w.x.hold(0, 6), 8);
        due("38 of ints", w.run(act(38, 6, 3, 1)), CAST);
        due("40: ints", w.run(act(40, 5, 3, 1)), 0);
        due("40: the ROW itself", w.run(act(40, 3, 3, 1)), CAST);
        due("40: doubles", w.run(act(40, 6, 3, 1)), CAST);
        due("40: doubles into none", w.run(act(40, 6, 7, 1)), CAST);
        due("40: ints into none", w.run(act(40, 5, 7, 1)), NULL);
        due("40: none", w.run(act(40, 7, 3, 1)), 0);
        due("40: none", w.x.item(3, 1), -1);
        due("41: doubles", w.run(act(0, 1, 0, 0), act(41, 6, 4, 1)), 0);
        due("41: doubles", w.x.item(6, 0), 8);
        due("41: ints", w.run(act(41, 5, 4, 1)), CAST);
        due("41: behind", w.run(act(41, 6, 4, 0)), INDEX);
        int[][] may = {{1, 1, 1, 1, 1}, {0, 1, 1, 1, 0}, {0, 0, 1, 1, 0}, {0, 0, 0, 1, 0}, {0, 0, 0, 0, 1}};
        for (int row = 0; row < 5; row++) {
            for (int c = 0; c < 5; c++) {
                Bench v = new Bench();
                v.run(act(0, 0, 1, 0), act(15, 0, row, 0), act(18, 1, c, 0));
                due(c + " into a ROW of " + row, v.run(act(39, 1, 0, 1)), may[row][c] == 1 ? 0 : STORE);
            }
        }
    }

    private static void lengths() {
        Bench w = new Bench();
        w.run(act(0, 0, 3, 0), act(14, 0, 0, 0), act(15, 1, 2, 0), act(16, 2, 0, 0), act(18, 3, 0, 0));
        for (int h = 0; h < 3; h++) {
            due("42", w.run(act(0, 4, 0, 0), act(42, 4, h, -5)), 0);
            due("42", w.x.number(0, 4), 3);
        }
        due("an OBJECT", w.run(act(42, 4, 3, 0)), KIND);
        due("none", w.run(act(42, 4, 7, 0)), NULL);
    }

    private static void anyItems() {
        for (int sort = 0; sort < 8; sort++) {
            Bench w = new Bench();
            w.run(act(0, 0, 2, 0), act(14, 0, sort, 0), act(0, 1, 1, 0), act(0, 2, -7, 0), act(1, 2, -7, 0),
                act(2, 2, -7, 0), act(28 + sort, 2, 0, 1));
            long value = sort == 3 ? 65529 : -7;
            boolean asLong = sort >= 1 && sort <= 5;
            due("43 of SORT " + sort, w.run(act(43, 3, 0, 1)), asLong ? 0 : KIND);
            due("43", w.x.number(0, 3), asLong ? value : 0);
            due("44 of SORT " + sort, w.run(act(44, 3, 0, 1)), sort >= 1 ? 0 : KIND);
            due("44", w.x.real(0, 3), sort >= 1 ? Double.doubleToLongBits(value) : 0);
            w.setNumber(4, (1L << 40) + 16777217);
            due("45 of SORT " + sort, w.run(act(45, 4, 0, 1)), sort >= 4 ? 0 : KIND);
            long[] wide = {0, 0, 0, 0, 16777217, 16777217, Float.floatToIntBits(16777216f),
                Double.doubleToLongBits(16777217)};
            if (sort >= 4) {
                due("45", w.x.item(0, 1), wide[sort]);
            }
            for (int op = 43; op <= 45; op++) {
                boolean fits = op == 43 ? asLong : op == 44 ? sort >= 1 : sort >= 4;
                due(op + " behind", w.run(act(op, 3, 0, 0)), fits ? INDEX : KIND);
                due(op + " of none", w.run(act(op, 3, 7, 0)), NULL);
            }
        }
        Bench w = new Bench();
        w.run(act(0, 0, 1, 0), act(18, 0, 0, 0), act(15, 1, 0, 0), act(16, 2, 0, 0), act(17, 3, 0, 0));
        for (int op = 43; op <= 45; op++) {
            for (int h = 0; h < 4; h++) {
                due(op + " of HOLD " + h, w.run(act(op, 3, h, 7)), KIND);
            }
        }
    }

    /** Two ROWS of SORT k, of 5 ITEMS 1 to 5 and of 4 ITEMS; then 46. */
    private static int move(Bench w, int k, long from, long to, long many, boolean within) {
        w.run(act(0, 0, 5, 0), act(0, 1, 4, 0), act(14, 0, k, 0), act(14, 1, k, 1));
        for (int i = 0; i < 5; i++) {
            w.run(act(0, 0, i, 0), act(0, 2, i + 1, 0), act(1, 2, i + 1, 0), act(2, 2, i + 1, 0), act(28 + k, 2, 0, 0));
        }
        w.setNumber(5, from);
        w.setNumber(6, to);
        // NUMBER 7 is what the Bench itself works with: it is built in 0 and added last.
        w.setNumber(0, many);
        return w.run(act(0, 7, 0, 0), act(3, 7, 0, 0), act(46, 0, within ? 0 : 1, -1));
    }

    private static void moves() {
        for (int k = 0; k < 8; k++) {
            Bench w = new Bench();
            due("46", move(w, k, 1, 0, 3, false), 0);
            for (int i = 0; i < 4; i++) {
                long want = i == 3 ? 0 : k == 0 ? 1 : i + 2;
                long bits = k == 6 ? Float.floatToIntBits(want) : k == 7 ? Double.doubleToLongBits(want) : want;
                due("46 ITEM " + i, w.x.item(1, i), bits);
            }
        }
        Bench up = new Bench();
        due("46 upwards within", move(up, 4, 0, 1, 4, true), 0);
        long[] wantUp = {1, 1, 2, 3, 4};
        Bench down = new Bench();
        due("46 downwards within", move(down, 4, 1, 0, 4, true), 0);
        long[] wantDown = {2, 3, 4, 5, 5};
        for (int i = 0; i < 5; i++) {
            due("upwards", up.x.item(0, i), wantUp[i]);
            due("downwards", down.x.item(0, i), wantDown[i]);
        }
        long far = Long.MAX_VALUE;
        long[][] wrong = {{-1, 0, 1}, {0, -1, 1}, {0, 0, -1}, {0, 0, 5}, {5, 0, 1}, {3, 0, 3}, {0, 2, 3}, {0, 5, 0},
            {6, 0, 0}, {far, 0, 1}, {0, far, 1}, {0, 0, far}, {far, far, far}, {1L << 32, 0, 1}, {0, 0, 1L << 32},
            {Long.MIN_VALUE, 0, Long.MIN_VALUE}};
        for (long[] r : wrong) {
            due("46 " + r[0] + ", " + r[1] + ", " + r[2], move(new Bench(), 4, r[0], r[1], r[2], false), INDEX);
        }
        due("46 of no ITEMS behind the last", move(new Bench(), 4, 5, 4, 0, false), 0);
        due("46 of all", move(new Bench(), 4, 1, 0, 4, false), 0);
        Bench w = new Bench();
        w.run(act(0, 0, 2, 0), act(14, 0, 4, 0), act(14, 1, 5, 0), act(15, 2, 0, 0), act(15, 3, 0, 0), act(18, 4, 0, 0),
            act(16, 5, 0, 0), act(0, 7, -1, 0));
        due("46 ints to longs: first STORE", w.run(act(46, 0, 1, 0)), STORE);
        due("46 of ROWS of NODES", w.run(act(46, 2, 3, 0)), STORE);
        due("46 of an OBJECT", w.run(act(46, 4, 4, 0)), STORE);
        due("46 of ROWS of ROWS", w.run(act(46, 5, 5, 0)), STORE);
        due("46 of ints: INDEX", w.run(act(46, 0, 0, 0)), INDEX);
        due("46 to none: first NULL", w.run(act(46, 4, 7, 0)), NULL);
        due("46 from none: first NULL", w.run(act(46, 7, 4, 0)), NULL);
    }

    private static void copies() {
        Bench w = new Bench();
        w.run(act(0, 0, 2, 0), act(0, 1, 1, 0), act(16, 0, 0, 0), act(14, 1, 7, 0), act(1, 0, 3, -1), act(35, 0, 1, 1));
        due("47 of a ROW of ROWS", w.run(act(47, 2, 0, 99)), 0);
        due("its number", w.x.hold(0, 2), 4);
        due("its SORT", w.x.thing(4, 0), 13);
        due("the same ITEMS", w.x.item(4, 0), 1);
        due("the same ITEMS", w.x.item(4, 1), 2);
        due("47 of doubles", w.run(act(64, 0, 1, 0), act(47, 1, 1, 0)), 0);
        due("its number", w.x.hold(0, 1), 5);
        due("its ITEMS", w.x.thing(5, 1), 2);
        due("its ITEM", w.x.item(5, 1), Double.doubleToLongBits(1.5));
        w.run(act(1, 0, 5, 0), act(35, 0, 1, 1));
        due("the first keeps its own", w.x.item(3, 1), Double.doubleToLongBits(1.5));
        due("none", w.run(act(47, 2, 7, 0)), NULL);
        due("an OBJECT", w.run(act(18, 3, 0, 0), act(47, 2, 3, 0)), CAST);
        due("nothing is changed", w.x.hold(0, 2), 4);
    }

    private static void kinds() {
        String[] are = new String[21];
        for (int s = 0; s < 8; s++) {
            are[s] = " " + s + " 25 ";
        }
        are[8] = " 8 25 ";
        are[9] = " 8 9 25 ";
        are[10] = " 8 9 10 25 ";
        are[11] = " 8 9 10 11 25 ";
        are[12] = " 8 12 25 ";
        are[13] = " 13 25 ";
        are[14] = " 14 25 ";
        are[16] = " 16 21 ";
        are[17] = " 16 17 21 ";
        are[18] = " 16 17 18 21 22 ";
        are[19] = " 16 17 18 19 21 22 ";
        are[20] = " 16 20 21 23 ";
        for (int sort = 0; sort < 21; sort++) {
            if (sort == 15) {
                continue;
            }
            for (int kind = 0; kind < 26; kind++) {
                if (kind == 15) {
                    continue;
                }
                Bench w = new Bench();
                w.run(sort < 8 ? act(14, 0, sort, 0) : sort < 13 ? act(15, 0, sort - 8, 0)
                    : sort < 16 ? act(sort + 3, 0, 0, 0) : act(18, 0, sort - 16, 0));
                boolean is = are[sort].contains(" " + kind + " ");
                due("48", w.run(act(0, 1, 9, 0), act(48, 1, 0, kind), act(48, 2, 7, kind)), 0);
                due("SORT " + sort + " of kind " + kind, w.x.number(0, 1), is ? 1 : 0);
                due("none of kind " + kind, w.x.number(0, 2), 0);
                due("49 SORT " + sort + " as " + kind, w.run(act(49, 1, 0, kind)), is ? 0 : CAST);
                due("49", w.x.hold(0, 1), is ? 0 : -1);
                due("49 of none", w.run(act(12, 1, 0, 0), act(49, 1, 7, kind)), 0);
                due("49 of none", w.x.hold(0, 1), -1);
            }
        }
    }

    private static void sameness() {
        Bench w = new Bench();
        w.run(act(18, 0, 0, 0), act(18, 1, 0, 0), act(12, 2, 0, 0), act(50, 0, 0, 2), act(50, 1, 0, 1), act(50, 2, 6, 7),
            act(50, 3, 0, 7));
        due("the same", w.x.number(0, 0), 1);
        due("another", w.x.number(0, 1), 0);
        due("none both", w.x.number(0, 2), 1);
        due("one is none", w.x.number(0, 3), 0);
    }
}
