/** Ops 12 to 52, at the edges that the document names for each. */
public final class EdgesOfRowsTest extends Edges {
    private static final long FAR = Long.MAX_VALUE;
    /** Indices of a ROW of 12, and whether they are there. */
    private static final long[] INDICES = {0, 11, 12, -1, 1L << 32, (1L << 32) + 11, -(1L << 32), 1L << 31, FAR, -FAR - 1};

    public static void main(String[] args) {
        holdsOfNone();
        itemsAreRead();
        itemsAreWritten();
        emptyRowsHaveNoItem();
        lowestBits();
        truths();
        takenAsTheirSort();
        thingsAtTheirPlaces();
        howManyItems();
        itemsAsLongs();
        itemsAsDoubles();
        itemsFromInts();
        anyItemsAtTheirPlaces();
        movesAtTheEdges();
        movesByTheWay();
        movesOfOneSort();
        copiesOfAllSizes();
        copiesHaveTheSameThings();
        copiesAreNotLocked();
        noneIsOfNoKind();
        nothingIsComparable();
        allRowsAreCloneable();
        sameThings();
        fieldsTaken();
        fieldsAtTheirEdges();
        marksAsInts();
        nextAndLineTaken();
        DUE.finish();
    }

    private static boolean isThere(long i) {
        return i >= 0 && i < 12;
    }

    /** "12 T a becomes T c. 13 T a becomes none." */
    private static void holdsOfNone() {
        Bench w = new Bench();
        due("12 of none, 13 of none", w.run(act(12, 0, 0, 1), act(13, 1, 0, 0)), 0);
        due("none", w.x.hold(0, 0), -1);
        w.run(act(18, 0, 0, 0), act(12, 7, LEAST, 0), act(12, 0, GREATEST, 0), act(13, 6, LEAST, GREATEST));
        due("12", w.x.hold(0, 7), 0);
        due("12 of itself", w.x.hold(0, 0), 0);
        due("13", w.run(act(13, 0, 0, 0), act(13, 7, 0, 0)), 0);
        due("none is held", w.x.hold(0, 0), -1);
        due("none is held", w.x.hold(0, 7), -1);
        due("the THING is there still", w.x.thing(0, 0), 16);
    }

    /** A ROW of SORT k of 12 ITEMS, ITEM i i + 1 (a truth: 1). */
    private static Bench twelve(int k) {
        Bench w = new Bench();
        w.run(act(0, 0, 12, 0), act(14, 0, k, 0));
        for (int i = 0; i < 12; i++) {
            w.run(act(0, 0, i, 0), act(0, 1, i + 1, 0), act(1, 1, i + 1, 0), act(2, 1, i + 1, 0), act(28 + k, 1, 0, 0));
        }
        return w;
    }

    private static long shown(int k, long v) {
        return k == 0 ? Math.min(v, 1) : k == 6 ? bits((float) v) : k == 7 ? bits((double) v) : v;
    }

    /** "20 + k (k a SORT 0 .. 7): NUMBER a .. becomes ITEM N c of T b .. INDEX (of N c all bits count)." */
    private static void itemsAreRead() {
        for (int k = 0; k < 8; k++) {
            for (long i : INDICES) {
                Bench w = twelve(k);
                w.setNumber(0, i);
                w.run(act(0, 2, 0, 0), act(1, 2, 0, 0), act(2, 2, 0, 0));
                due(20 + k + " at " + i, w.run(act(20 + k, 2, 0, 0)), isThere(i) ? 0 : endBy(INDEX));
                long got = k == 6 ? w.x.small(0, 2) : k == 7 ? w.x.real(0, 2) : w.x.number(0, 2);
                due(20 + k + " at " + i, got, isThere(i) ? shown(k, i + 1) : 0);
            }
        }
    }

    /** "28 + k: that ITEM becomes NUMBER a (FLOAT, DOUBLE)". */
    private static void itemsAreWritten() {
        for (int k = 0; k < 8; k++) {
            for (long i : INDICES) {
                Bench w = twelve(k);
                w.setNumber(0, i);
                w.run(act(0, 2, k == 0 ? 0 : 99, 0), act(1, 2, 99, 0), act(2, 2, 99, 0));
                due(28 + k + " at " + i, w.run(act(28 + k, 2, 0, 0)), isThere(i) ? 0 : endBy(INDEX));
                for (int at = 0; at < 12; at++) {
                    due("ITEM " + at, w.x.item(0, at), at == i ? shown(k, k == 0 ? 0 : 99) : shown(k, at + 1));
                }
            }
        }
    }

    /** A ROW of 0 ITEMS has not even ITEM 0. */
    private static void emptyRowsHaveNoItem() {
        for (int k = 0; k < 8; k++) {
            Bench w = new Bench();
            w.run(act(14, 0, k, 0));
            due("read", w.run(act(20 + k, 1, 0, 0)), endBy(INDEX));
            due("write", w.run(act(28 + k, 1, 0, 0)), endBy(INDEX));
            due("item", w.x.item(0, 0), LOST);
        }
        Bench w = new Bench();
        w.run(act(15, 0, 0, 0), act(16, 1, 0, 0), act(17, 2, 0, 0), act(18, 3, 0, 0), act(14, 4, 4, 0), act(14, 5, 7, 0));
        for (int i = 0; i < 3; i++) {
            due(36 + i + "", w.run(act(36 + i, 7, i, 0)), endBy(INDEX));
            due(39 + i + "", w.run(act(39 + i, 3 + i, i, 0)), endBy(INDEX));
        }
    }

    /** "its lowest bits". */
    private static void lowestBits() {
        long[] vs = {127, 128, -129, 256, 32768, -32769, 65535, 65536, 1L << 31, -(1L << 31) - 1, 1L << 32, FAR, -FAR - 1};
        for (long v : vs) {
            long[] want = {1, (byte) v, (short) v, (char) v, (int) v, v};
            for (int k = 0; k < 6; k++) {
                Bench w = new Bench();
                w.setNumber(1, v);
                w.run(act(0, 0, 1, 0), act(14, 0, k, 0), act(0, 0, 0, 0), act(28 + k, 1, 0, 0), act(20 + k, 2, 0, 0));
                due(v + " in SORT " + k, w.x.item(0, 0), want[k]);
                due(v + " out of SORT " + k, w.x.number(0, 2), want[k]);
            }
        }
    }

    /** "(truths: whether it is not 0)", "(a truth 1, 0)". */
    private static void truths() {
        for (long v : new long[] {0, 1, 2, -1, 256, 1L << 32, -FAR - 1}) {
            Bench w = new Bench();
            w.setNumber(1, v);
            w.run(act(0, 0, 1, 0), act(14, 0, 0, 0), act(0, 0, 0, 0), act(28, 1, 0, 0), act(20, 2, 0, 0));
            due(v + " as a truth", w.x.item(0, 0), v == 0 ? 0 : 1);
            due(v + " as a truth", w.x.number(0, 2), v == 0 ? 0 : 1);
        }
    }

    /** "TAKEN as SORT k": of any other THING, of a ROW of 0 ITEMS too, it is CAST. */
    private static void takenAsTheirSort() {
        for (int sort : SORTS) {
            for (int k = 0; k < 8; k++) {
                Bench w = new Bench();
                w.run(making(sort));
                int want = sort == k ? endBy(INDEX) : endBy(CAST);
                due("SORT " + sort + " read as " + k, w.run(act(20 + k, 1, 0, 0)), want);
                due("SORT " + sort + " written as " + k, w.run(act(28 + k, 1, 0, 0)), want);
            }
            Bench w = new Bench();
            w.run(making(sort));
            boolean[] fits = {sort >= 8 && sort < 13, sort == 13, sort == 14};
            for (int i = 0; i < 3; i++) {
                due("SORT " + sort + " by " + (36 + i), w.run(act(36 + i, 1, 0, 0)), endBy(fits[i] ? INDEX : CAST));
                due("SORT " + sort + " by " + (39 + i), w.run(act(39 + i, 7, 0, 0)), endBy(fits[i] ? INDEX : CAST));
            }
        }
    }

    /** "36 T a becomes ITEM N c of T b .. 39 ITEM N c of T b .. NULL; INDEX; STORE". */
    private static void thingsAtTheirPlaces() {
        for (int i = 0; i < 3; i++) {
            for (long at : INDICES) {
                Bench w = new Bench();
                int size = i == 0 ? 12 : 6;
                w.run(act(0, 0, size, 0), act(0, 1, 12, 0), act(18, 1, 0, 0), act(14, 2, 4, 0), act(14, 3, 7, 0),
                    i == 0 ? act(15, 0, 0, 1) : act(15 + i, 0, 0, 0));
                long there = at == 11 && i > 0 ? 5 : at;
                w.setNumber(0, there);
                boolean is = there >= 0 && there < size;
                due(39 + i + " at " + there, w.run(act(39 + i, 1 + i, 0, 0)), is ? 0 : endBy(INDEX));
                due(36 + i + " at " + there, w.run(act(36 + i, 7, 0, 0)), is ? 0 : endBy(INDEX));
                due("it is held", w.x.hold(0, 7), is ? i : -1);
                due("it is there", w.x.item(3, (int) (is ? there : 0)), is ? i : i == 0 ? -1 : 4);
            }
        }
    }

    /** "42 N a becomes how many ITEMS T b has: NULL; KIND (no ROW)." */
    private static void howManyItems() {
        for (int n : new int[] {0, 1, 12}) {
            Bench w = new Bench();
            w.run(act(0, 0, n, 0), act(14, 0, 0, 0), act(15, 1, 4, 0), act(0, 1, 99, 0), act(0, 2, 99, 0), act(42, 1, 0, LEAST),
                act(42, 2, 1, GREATEST));
            due("of truths", w.x.number(0, 1), n);
            due("of STONES", w.x.number(0, 2), n);
        }
        Bench w = new Bench();
        w.run(act(0, 0, 6, 0), act(16, 0, 0, 0), act(42, 1, 0, 0));
        due("of ROWS", w.x.number(0, 1), 6);
        for (int c = 0; c < 5; c++) {
            due("an OBJECT", w.run(act(18, 0, c, 0), act(42, 1, 0, 0)), endBy(KIND));
        }
        due("none", w.run(act(42, 1, 7, 0)), endBy(NULL));
    }

    /** "43 .. as a long: NULL; KIND (not of SORTS 1 to 5); INDEX." */
    private static void itemsAsLongs() {
        long[] want = {0, -1, -1, 65535, -1, -1};
        for (int k = 0; k < 8; k++) {
            Bench w = new Bench();
            w.run(act(0, 0, 1, 0), act(14, 0, k, 0), act(0, 1, -1, 0), act(1, 1, -1, 0), act(2, 1, -1, 0), act(0, 0, 0, 0),
                act(28 + k, 1, 0, 0));
            boolean fits = k >= 1 && k <= 5;
            due("43 of SORT " + k, w.run(act(43, 2, 0, 0)), fits ? 0 : endBy(KIND));
            due("43 of SORT " + k, w.x.number(0, 2), fits ? want[k] : 0);
        }
    }

    /** "44 X a as a double likewise (KIND: not of SORTS 1 to 7)." */
    private static void itemsAsDoubles() {
        long v = (1L << 53) + 1;
        double[] want = {0, (byte) v, (short) v, (char) v, (int) v, v, -0.0, -0.0};
        for (int k = 0; k < 8; k++) {
            Bench w = new Bench();
            w.setNumber(1, v);
            w.run(act(0, 0, 1, 0), act(14, 0, k, 0), act(7, 1, 5, 1), act(8, 1, 5, 1), act(0, 0, 0, 0), act(28 + k, 1, 0, 0));
            due("44 of SORT " + k, w.run(act(44, 2, 0, 0)), k == 0 ? endBy(KIND) : 0);
            due("44 of SORT " + k, w.x.real(0, 2), bits(want[k]));
        }
    }

    /** "45 ITEM N c of T b becomes N a as an int, widened as Java does: likewise (KIND: not of SORTS 4 to 7)." */
    private static void itemsFromInts() {
        for (long v : new long[] {GREATEST, LEAST, 1L << 31, (1L << 32) - 1, 16777217, 16777219, FAR, 7L << 32}) {
            long[] want = {0, 0, 0, 0, (int) v, (int) v, bits((float) (int) v), bits((double) (int) v)};
            for (int k = 0; k < 8; k++) {
                Bench w = new Bench();
                w.setNumber(1, v);
                w.run(act(0, 0, 1, 0), act(14, 0, k, 0), act(0, 0, 0, 0));
                due("45 of SORT " + k, w.run(act(45, 1, 0, 0)), k < 4 ? endBy(KIND) : 0);
                due(v + " in SORT " + k, w.x.item(0, 0), want[k]);
            }
        }
    }

    /** INDEX of 43, 44 and 45: all bits of N c count. */
    private static void anyItemsAtTheirPlaces() {
        for (int op = 43; op <= 45; op++) {
            for (long i : INDICES) {
                Bench w = twelve(4);
                w.setNumber(0, i);
                w.run(act(0, 2, 99, 0));
                due(op + " at " + i, w.run(act(op, 2, 0, 0)), isThere(i) ? 0 : endBy(INDEX));
                if (isThere(i)) {
                    long[] got = {w.x.number(0, 2), w.x.real(0, 2), w.x.item(0, (int) i)};
                    long[] want = {i + 1, bits((double) (i + 1)), 99};
                    due(op + " at " + i, got[op - 43], want[op - 43]);
                }
            }
        }
    }

    /** 46 of N 7 ITEMS, from N 5 on to N 6 on, of HOLD a to HOLD b. */
    private static int moved(Bench w, int a, int b, long from, long to, long many) {
        w.setNumber(0, many);
        w.setNumber(5, from);
        w.setNumber(6, to);
        return w.run(act(0, 7, 0, 0), act(3, 7, 0, 0), act(46, a, b, LEAST));
    }

    /** "INDEX (not all there; N 7 below 0)": a ROW of 12 to one of 5. */
    private static void movesAtTheEdges() {
        long[][] fits = {{0, 0, 0}, {12, 5, 0}, {0, 0, 5}, {7, 0, 5}, {11, 4, 1}, {0, 5, 0}, {12, 0, 0}};
        long[][] fails = {{0, 0, -1}, {-1, 0, 1}, {0, -1, 1}, {-1, 0, 0}, {0, -1, 0}, {8, 0, 5}, {0, 1, 5}, {0, 0, 6},
            {12, 0, 1}, {0, 5, 1}, {13, 0, 0}, {0, 6, 0}, {FAR, 0, 1}, {0, FAR, 1}, {0, 0, FAR}, {FAR, FAR, 2},
            {-FAR - 1, 0, 1}, {0, 0, -FAR - 1}, {1L << 32, 0, 1}, {0, 1L << 32, 1}, {0, 0, 1L << 32}, {1, 1, FAR}};
        for (long[] f : fits) {
            Bench w = twelve(4);
            w.run(act(0, 1, 5, 0), act(14, 1, 4, 1));
            due("46 of " + f[2] + " from " + f[0] + " to " + f[1], moved(w, 0, 1, f[0], f[1], f[2]), 0);
            for (int i = 0; i < 5; i++) {
                boolean came = i >= f[1] && i < f[1] + f[2];
                due("ITEM " + i, w.x.item(1, i), came ? f[0] + i - f[1] + 1 : 0);
            }
        }
        for (long[] f : fails) {
            Bench w = twelve(4);
            w.run(act(0, 1, 5, 0), act(14, 1, 4, 1));
            due("46 of " + f[2] + " from " + f[0] + " to " + f[1], moved(w, 0, 1, f[0], f[1], f[2]), endBy(INDEX));
            for (int i = 0; i < 5; i++) {
                due("nothing came to ITEM " + i, w.x.item(1, i), 0);
            }
        }
    }

    /** "(as if by way of others)": within one ROW, upwards and downwards. */
    private static void movesByTheWay() {
        for (int k = 0; k < 8; k++) {
            for (int by : new int[] {1, -1, 5, -5, 0}) {
                Bench w = twelve(k);
                int from = Math.max(-by, 0);
                int to = Math.max(by, 0);
                int many = 12 - Math.abs(by);
                due("46 within, by " + by, moved(w, 0, 0, from, to, many), 0);
                for (int i = 0; i < 12; i++) {
                    boolean came = i >= to && i < to + many;
                    due("ITEM " + i + " of SORT " + k, w.x.item(0, i), shown(k, came ? i - by + 1 : i + 1));
                }
            }
        }
    }

    /** "STORE (not both of one SORT 0 .. 7)", of no ITEMS too. */
    private static void movesOfOneSort() {
        for (int p = 0; p < 9; p++) {
            for (int q = 0; q < 9; q++) {
                Bench w = new Bench();
                w.run(p < 8 ? act(14, 0, p, 0) : act(15, 0, 0, 0), q < 8 ? act(14, 1, q, 0) : act(15, 1, 0, 0));
                due("46 of SORTS " + p + ", " + q, w.run(act(46, 0, 1, 0)), p == q && p < 8 ? 0 : endBy(STORE));
            }
        }
        Bench w = new Bench();
        w.run(act(16, 0, 0, 0), act(17, 1, 0, 0), act(18, 2, 0, 0), act(14, 3, 4, 0));
        for (int k = 0; k < 3; k++) {
            due("46 of HOLD " + k, w.run(act(46, k, k, 0)), endBy(STORE));
            due("46 from HOLD " + k, w.run(act(46, k, 3, 0)), endBy(STORE));
            due("46 to HOLD " + k, w.run(act(46, 3, k, 0)), endBy(STORE));
        }
    }

    /** "47 T a becomes a copy of T b". */
    private static void copiesOfAllSizes() {
        for (int k = 0; k < 8; k++) {
            Bench w = twelve(k);
            due("of 12", w.run(act(47, 1, 0, LEAST)), 0);
            due("SORT", w.x.thing(1, 0), k);
            due("ITEMS", w.x.thing(1, 1), 12);
            for (int i = 0; i < 12; i++) {
                due("ITEM " + i, w.x.item(1, i), w.x.item(0, i));
            }
            due("it is another", w.run(act(0, 0, 11, 0), act(0, 1, 0, 0), act(1, 1, 0, 0), act(2, 1, 0, 0),
                act(28 + k, 1, 1, 0)), 0);
            due("the copy", w.x.item(1, 11), 0);
            due("the first", w.x.item(0, 11), shown(k, 12));
            due("of 0", w.run(act(0, 0, 0, 0), act(14, 2, k, 0), act(47, 2, 2, 0)), 0);
            due("into the same HOLD", w.x.hold(0, 2), 3);
            due("ITEMS", w.x.thing(3, 1), 0);
        }
        for (int c = 0; c < 5; c++) {
            due("CAST (no ROW)", new Bench().run(act(18, 0, c, 0), act(47, 1, 0, 0)), endBy(CAST));
        }
    }

    /** "ITEMS that are THINGS are the same ones." */
    private static void copiesHaveTheSameThings() {
        Bench w = new Bench();
        w.run(act(0, 0, 2, 0), act(0, 1, 1, 0), act(15, 0, 1, 0), act(18, 1, 3, 0), act(39, 1, 0, 1), act(47, 2, 0, 0));
        due("its SORT", w.x.thing(2, 0), 9);
        due("none", w.x.item(2, 0), -1);
        due("the same", w.x.item(2, 1), 1);
        due("a STONE is none of its CLASS", w.run(act(18, 3, 4, 0), act(39, 3, 2, 1)), endBy(STORE));
        w.run(act(17, 4, 0, 1), act(47, 5, 4, 0));
        due("ROWS: no new ones", w.x.count(0), 8);
        due("ROWS: the same", w.x.item(7, 1), w.x.item(4, 1));
    }

    /** A copy is a new THING: nobody LOCKS it. */
    private static void copiesAreNotLocked() {
        MachineWitness x = new MachineWitness();
        x.act(0, 14, 0, 0, 0);
        x.act(0, 64, 0, 0, 0);
        x.act(0, 47, 1, 0, 0);
        x.act(0, 59, 3, 0, 0);
        x.start(0, 0);
        x.turn(0, 3);
        due("the first", x.thing(0, 2), 0);
        due("the copy", x.thing(1, 2), -1);
        due("how often", x.thing(1, 3), 0);
    }

    /** "48 N a becomes 1 if T b is of kind c, else 0 (none: 0)". */
    private static void noneIsOfNoKind() {
        for (int kind = 0; kind < 26; kind++) {
            if (kind != 15) {
                Bench w = new Bench();
                due("48 of none", w.run(act(0, 0, 9, 0), act(48, 0, 0, kind)), 0);
                due("none is not of kind " + kind, w.x.number(0, 0), 0);
            }
        }
        due("there is no kind 15", new MachineWitness().act(0, 48, 0, 0, 15), -1);
        due("there is no kind 26", new MachineWitness().act(0, 48, 0, 0, 26), -1);
        due("there is no kind -1", new MachineWitness().act(0, 49, 0, 0, -1), -1);
    }

    private static int isOf(int sort, int kind) {
        Bench w = new Bench();
        w.run(making(sort), act(48, 1, 0, kind));
        due("49 agrees", w.run(act(49, 1, 0, kind)), w.x.number(0, 1) == 1 ? 0 : endBy(CAST));
        return (int) w.x.number(0, 1);
    }

    /** "24 Comparable (nothing is)". */
    private static void nothingIsComparable() {
        for (int sort : SORTS) {
            due("SORT " + sort + " Comparable", isOf(sort, 24), 0);
        }
    }

    /** "25 Cloneable (all ROWS are)". */
    private static void allRowsAreCloneable() {
        for (int sort : SORTS) {
            due("SORT " + sort + " Cloneable", isOf(sort, 25), sort < 16 ? 1 : 0);
        }
    }

    /** "50 N a becomes 1 if T b is T c (none both, too), else 0." */
    private static void sameThings() {
        Bench w = new Bench();
        w.run(act(14, 0, 4, 0), act(47, 1, 0, 0), act(12, 2, 0, 0), act(0, 3, 9, 0), act(0, 4, 9, 0), act(50, 0, 0, 2),
            act(50, 1, 6, 7), act(50, 2, 0, 0), act(50, 3, 0, 1), act(50, 4, 0, 7));
        long[] want = {1, 1, 1, 0, 0};
        for (int k = 0; k < 5; k++) {
            due("50, case " + k, w.x.number(0, k), want[k]);
        }
    }

    /** "T c TAKEN as a NODE (7 LEAF, 8 TWIG): NULL." */
    private static void fieldsTaken() {
        for (int b = 0; b < 9; b++) {
            for (int c = 0; c < 5; c++) {
                boolean has = b < 7 || b == 7 && c >= 1 && c <= 3 || c == 3;
                Bench w = new Bench();
                w.run(act(18, 0, c, 0));
                due("51 " + b + " of CLASS " + c, w.run(act(51, 1, b, 0)), has ? 0 : endBy(CAST));
                if (b != 5) {
                    due("52 " + b + " of CLASS " + c, w.run(act(52, 3, b, 0)), has ? 0 : endBy(CAST));
                }
            }
            due("51 of none", new Bench().run(act(51, 1, b, 7)), endBy(NULL));
            if (b != 5) {
                due("52 of none", new Bench().run(act(52, 1, b, 7)), endBy(NULL));
            }
        }
        due("52 has no TALLY", new MachineWitness().act(0, 52, 0, 5, 0), -1);
    }

    /** "51 of T c: by b: 0 N a becomes its n, 1 X a x, 2 F a f, 3 T a NEXT, 4 T a LINE, 5 N a TALLY". */
    private static void fieldsAtTheirEdges() {
        float[] fs = {-0.0f, Float.MIN_VALUE, -Float.MAX_VALUE, Float.POSITIVE_INFINITY};
        double[] xs = {-0.0, Double.MIN_VALUE, -Double.MAX_VALUE, Double.NEGATIVE_INFINITY};
        for (int i = 0; i < 4; i++) {
            Bench w = new Bench();
            w.setFloat(0, fs[i]);
            w.setDouble(0, xs[i]);
            w.run(act(18, 0, 0, 0), act(0, 0, 0, 0), act(14, 1, 4, 0), act(52, 0, 1, 0), act(52, 0, 2, 0), act(52, 0, 3, 0),
                act(52, 1, 4, 0), act(55, 1, 0, 0));
            due("51", w.run(act(51, 3, 1, 0), act(51, 3, 2, 0), act(51, 6, 3, 0), act(51, 7, 4, 0), act(51, 4, 5, 0)), 0);
            due("x", w.x.real(0, 3), bits(xs[i]));
            due("f", w.x.small(0, 3), bits(fs[i]));
            due("NEXT, itself", w.x.hold(0, 6), 0);
            due("LINE", w.x.hold(0, 7), 1);
            due("TALLY", w.x.number(0, 4), 1);
        }
        Bench w = new Bench();
        w.run(act(18, 0, 0, 0), act(18, 6, 0, 0), act(18, 7, 0, 0), act(51, 6, 3, 0), act(51, 7, 4, 0));
        due("NEXT none", w.x.hold(0, 6), -1);
        due("LINE none", w.x.hold(0, 7), -1);
    }

    /** "(MARKS as an int ..)", and n as a long. */
    private static void marksAsInts() {
        for (long v : new long[] {GREATEST, 1L << 31, LEAST, (1L << 32) + 3, FAR, -FAR - 1}) {
            Bench w = new Bench();
            w.setNumber(0, v);
            w.run(act(18, 0, 3, 0), act(52, 0, 0, 0), act(52, 0, 6, 0), act(52, 0, 7, 0), act(52, 0, 8, 0), act(51, 1, 0, 0),
                act(51, 2, 6, 0));
            due("n", w.x.field(0, 0), v);
            for (int b = 6; b < 9; b++) {
                due("MARK " + b, w.x.field(0, b), (int) v);
            }
            due("51 0", w.x.number(0, 1), v);
            due("51 6", w.x.number(0, 2), (int) v);
        }
    }

    /** "(.. behind T c NEXT TAKEN as a NODE, LINE as SORT 4)". */
    private static void nextAndLineTaken() {
        for (int sort : SORTS) {
            Bench w = new Bench();
            w.run(act(18, 1, 0, 0), making(sort));
            due("NEXT of SORT " + sort, w.run(act(52, 0, 3, 1)), sort >= 16 ? 0 : endBy(CAST));
            due("LINE of SORT " + sort, w.run(act(52, 0, 4, 1)), sort == 4 ? 0 : endBy(CAST));
            due("NEXT", w.x.field(0, 3), sort >= 16 ? 1 : -1);
            due("LINE", w.x.field(0, 4), sort == 4 ? 1 : -1);
        }
    }
}
