/** The document's section 1: THINGS, their SORTS and ITEMS, CLASSES, fields, METHODS. */
public final class EdgesOfThingsTest extends Edges {
    public static void main(String[] args) {
        numberedAsTheyAreMade();
        atMost160();
        itemsFrom0To12();
        rowsOfRowsFrom0To6();
        itemsAreNothingAtFirst();
        fieldsAreNothingAtFirst();
        rowsOfAClassHaveItsObjects();
        rowsOfRowsHaveTheirSort();
        objectsAreOfClassesAbove();
        rowsAreOfClassesAbove();
        faces();
        marksOfTheirOwn();
        bodiesByTheirNumbers();
        traceWraps();
        weighWraps();
        measureAtItsEdges();
        stonesMeasure();
        endlessIsOfOneMeasure();
        countAtItsEdges();
        bloomWraps();
        hardnessAtItsEdges();
        DUE.finish();
    }

    /** "THINGS 0, 1, .. as they are made", by whichever THREAD. */
    private static void numberedAsTheyAreMade() {
        Bench w = new Bench();
        for (int i = 0; i < 9; i++) {
            w.runBy(i % 3, act(18, i / 3, 0, 0));
            due("THING " + i, w.x.hold(i % 3, i / 3), i);
        }
        due("a ROW, then its ROWS", w.run(act(0, 0, 2, 0), act(17, 4, 0, 0), act(47, 5, 4, 0)), 0);
        due("the ROW", w.x.hold(0, 4), 9);
        due("its first", w.x.item(9, 0), 10);
        due("its second", w.x.item(9, 1), 11);
        due("a copy", w.x.hold(0, 5), 12);
        due("an ACT that FAILS takes no number", w.run(act(0, 0, 13, 0), act(14, 0, 0, 0)), endBy(ROOM));
        w.run(act(18, 0, 0, 0));
        due("the next", w.x.hold(0, 0), 13);
    }

    /** "(160 at most)": all ops that make THINGS, with one too few, and with enough room. */
    private static void atMost160() {
        int[][] makes = {act(14, 0, 4, 0), act(15, 0, 4, 0), act(18, 0, 4, 0), act(47, 0, 1, 0), act(16, 0, 0, 0),
            act(16, 0, 2, 0), act(17, 0, 2, 0)};
        int[] things = {1, 1, 1, 1, 1, 4, 4};
        for (int i = 0; i < makes.length; i++) {
            for (int before = 157 - things[i]; before <= 160; before++) {
                Bench w = new Bench();
                w.run(act(14, 1, 4, 0), act(0, 2, 3, 0));
                w.fill(before);
                boolean room = before + things[i] <= 160;
                String call = makes[i][0] + " of " + things[i] + " THINGS behind " + before;
                due(call, w.run(makes[i]), room ? 0 : endBy(ROOM));
                due(call + ": count", w.x.count(0), room ? before + things[i] : before);
                due(call + ": hold", w.x.hold(0, 0), room ? before : -1);
            }
        }
    }

    /** "with 0 to 12 ITEMS". */
    private static void itemsFrom0To12() {
        long[] sizes = {0, 1, 12, 13, -1, Long.MAX_VALUE, Long.MIN_VALUE, 1L << 32, 12 - (1L << 32)};
        int[] want = {0, 0, 0, ROOM, SIZE, ROOM, SIZE, ROOM, SIZE};
        for (int sort = 0; sort < 13; sort++) {
            for (int i = 0; i < sizes.length; i++) {
                Bench w = new Bench();
                w.setNumber(1, sizes[i]);
                String call = "a ROW of SORT " + sort + " of " + sizes[i];
                int answer = w.run(sort < 8 ? act(14, 0, sort, 1) : act(15, 0, sort - 8, 1));
                due(call, answer, want[i] == 0 ? 0 : endBy(want[i]));
                due(call, w.x.thing(0, 1), want[i] == 0 ? sizes[i] : -2);
            }
        }
    }

    /** "above 12 ITEMS (N b above 6)". */
    private static void rowsOfRowsFrom0To6() {
        long far = Long.MAX_VALUE;
        long[][] sizes = {{0, 0}, {6, 12}, {0, 12}, {6, 0}, {7, 0}, {7, 12}, {6, 13}, {0, 13}, {-1, 0}, {0, -1},
            {6, -1}, {-1, -1}, {-1, 13}, {7, -1}, {far, 0}, {0, far}, {-far, 0}, {0, -far}, {1L << 32, 1}, {1, 1L << 32}};
        int[] want = {0, 0, 0, 0, ROOM, ROOM, ROOM, ROOM, SIZE, SIZE, SIZE, SIZE, ROOM, ROOM, ROOM, ROOM, SIZE, SIZE,
            ROOM, ROOM};
        for (int op = 16; op <= 17; op++) {
            for (int i = 0; i < sizes.length; i++) {
                Bench w = new Bench();
                w.setNumber(1, sizes[i][0]);
                w.setNumber(2, sizes[i][1]);
                String call = op + " of " + sizes[i][0] + " ROWS of " + sizes[i][1];
                due(call, w.run(act(op, 0, 1, 2)), want[i] == 0 ? 0 : endBy(want[i]));
                due(call + ": count", w.x.count(0), want[i] == 0 ? 1 + sizes[i][0] : 0);
                for (int t = 1; t < w.x.count(0); t++) {
                    due(call + ": its ROWS", w.x.item(0, t - 1), t);
                    due(call + ": their SORT", w.x.thing(t, 0), op == 16 ? 4 : 7);
                    due(call + ": their ITEMS", w.x.thing(t, 1), sizes[i][1]);
                }
            }
        }
    }

    /** "ITEMS .. are 0, none at first", of all twelve, where another THING was before clear(), too. */
    private static void itemsAreNothingAtFirst() {
        for (int sort = 0; sort < 13; sort++) {
            Bench w = new Bench();
            w.run(act(0, 0, 12, 0), act(0, 1, 11, 0), act(1, 1, -1, 0), act(2, 1, -1, 0), act(18, 1, Math.max(sort - 8, 0), 0),
                sort < 8 ? act(14, 0, sort, 0) : act(15, 0, sort - 8, 0),
                sort < 8 ? act(28 + sort, 1, 0, 1) : act(39, 1, 0, 1));
            due("the last ITEM is written", w.x.item(1, 11) == w.x.item(1, 10) ? 1 : 0, 0);
            w.x.clear();
            w.run(act(0, 0, 12, 0), act(18, 1, 0, 0), sort < 8 ? act(14, 0, sort, 0) : act(15, 0, sort - 8, 0));
            for (int i = 0; i < 12; i++) {
                due("ITEM " + i + " of SORT " + sort, w.x.item(1, i), sort < 8 ? 0 : -1);
            }
        }
    }

    /** "fields are 0, none at first", where another OBJECT was before clear(), too. */
    private static void fieldsAreNothingAtFirst() {
        Bench w = new Bench();
        for (int round = 0; round < 2; round++) {
            w.run(act(18, 0, 3, 0));
            for (int b = 0; b < 9; b++) {
                due("field " + b, w.x.field(0, b), b == 3 || b == 4 ? -1 : 0);
            }
            w.run(act(0, 1, 5, 0), act(1, 1, 5, 0), act(2, 1, 5, 0), act(14, 1, 4, 2), act(52, 1, 0, 0), act(52, 1, 1, 0),
                act(52, 1, 2, 0), act(52, 0, 3, 0), act(52, 1, 4, 0), act(55, 2, 0, 0), act(52, 1, 6, 0), act(52, 1, 7, 0),
                act(52, 1, 8, 0));
            due("its MARK", w.x.field(0, 8), 5);
            due("NEXT may be itself", w.x.field(0, 3), 0);
            due("clear", w.x.clear(), 2);
        }
    }

    private static boolean isUnder(int c, int above) {
        return above == 0 || c == above || c != 4 && above != 4 && c > above;
    }

    /** "a ROW of CLASS c (0 .. 4), ITEMS: OBJECTS of that CLASS, or none". */
    private static void rowsOfAClassHaveItsObjects() {
        for (int row = 0; row < 5; row++) {
            for (int c = 0; c < 5; c++) {
                Bench w = new Bench();
                w.run(act(0, 0, 1, 0), act(15, 0, row, 0), act(18, 1, c, 0));
                String call = "CLASS " + c + " in a ROW of CLASS " + row;
                due(call, w.run(act(39, 1, 0, 1)), isUnder(c, row) ? 0 : endBy(STORE));
                due(call, w.x.item(0, 0), isUnder(c, row) ? 1 : -1);
                due("none", w.run(act(39, 7, 0, 1)), 0);
                due("none", w.x.item(0, 0), -1);
            }
        }
    }

    /** "13 a ROW of ROWS of ints, 14 of ROWS of doubles: ITEMS of SORT 4 (7), or none". */
    private static void rowsOfRowsHaveTheirSort() {
        for (int sort : SORTS) {
            for (int op = 40; op <= 41; op++) {
                Bench w = new Bench();
                w.run(act(0, 0, 2, 0), making(sort), act(0, 1, 1, 0), act(op - 24, 1, 1, 1));
                int row = w.x.hold(0, 1);
                due("SORT " + sort + " by " + op, w.run(act(op, 0, 1, 2)), sort == (op == 40 ? 4 : 7) ? 0 : endBy(CAST));
                due("it is there", w.x.item(row, 0), sort == (op == 40 ? 4 : 7) ? 0 : row + 1);
                due("none", w.run(act(op, 7, 1, 2)), 0);
                due("none", w.x.item(row, 0), -1);
            }
        }
    }

    /** "An OBJECT is of its CLASS and of those above". */
    private static void objectsAreOfClassesAbove() {
        for (int c = 0; c < 5; c++) {
            for (int above = 0; above < 5; above++) {
                Bench w = new Bench();
                w.run(act(18, 0, c, 0), act(48, 0, 0, 16 + above));
                due("CLASS " + c + " is of CLASS " + above, w.x.number(0, 0), isUnder(c, above) ? 1 : 0);
                due("and no ROW of it", w.run(act(49, 1, 0, 8 + above)), endBy(CAST));
            }
        }
    }

    /** "a ROW of a CLASS is a ROW of those above, too". */
    private static void rowsAreOfClassesAbove() {
        for (int c = 0; c < 5; c++) {
            for (int above = 0; above < 5; above++) {
                Bench w = new Bench();
                w.run(act(15, 0, c, 0), act(48, 0, 0, 8 + above));
                due("a ROW of CLASS " + c + " is one of CLASS " + above, w.x.number(0, 0), isUnder(c, above) ? 1 : 0);
                due("and no OBJECT of it", w.run(act(49, 1, 0, 16 + above)), endBy(CAST));
            }
        }
    }

    /** "FACES: WEIGHS (NODES have it), BLOOMS (BUDS), HARD (STONES)." */
    private static void faces() {
        for (int sort : SORTS) {
            Bench w = new Bench();
            w.run(making(sort), act(48, 1, 0, 21), act(48, 2, 0, 22), act(48, 3, 0, 23));
            due("SORT " + sort + " WEIGHS", w.x.number(0, 1), sort >= 16 ? 1 : 0);
            due("SORT " + sort + " BLOOMS", w.x.number(0, 2), sort == 18 || sort == 19 ? 1 : 0);
            due("SORT " + sort + " is HARD", w.x.number(0, 3), sort == 20 ? 1 : 0);
        }
    }

    /** "LEAVES have one more MARK of their own, TWIGS a third one." */
    private static void marksOfTheirOwn() {
        for (int c = 0; c < 5; c++) {
            for (int b = 6; b <= 8; b++) {
                Bench w = new Bench();
                w.run(act(18, 0, c, 0), act(0, 0, 9, 0));
                boolean has = b == 6 || b == 7 && c >= 1 && c <= 3 || c == 3;
                due("MARK " + b + " of CLASS " + c, w.run(act(52, 0, b, 0)), has ? 0 : endBy(CAST));
                for (int other = 6; other <= 8; other++) {
                    boolean there = other == 6 || other == 7 && c >= 1 && c <= 3 || c == 3;
                    due("MARK " + other, w.x.field(0, other), !there ? LOST : other == b ? 9 : 0);
                }
            }
        }
    }

    /** "METHODS, each with a body by a number, TRACED as it begins". */
    private static void bodiesByTheirNumbers() {
        int[][] weigh = {{1}, {2, 1}, {2, 1}, {3, 2, 1}, {4, 1}};
        int[][] measure = {{5}, {6, 5}, {7, 6, 5}, {7, 6, 5}, {8}};
        int[][] count = {{9}, {10, 9, 9}, {10, 9, 9}, {11, 10, 9, 9}, {9}};
        int[][] bloom = {{}, {}, {12, 13}, {12, 14}, {}};
        int[][] hardness = {{}, {}, {}, {}, {15}};
        int[][][] bodies = {weigh, measure, count, bloom, hardness};
        for (int op = 53; op <= 57; op++) {
            for (int c = 0; c < 5; c++) {
                int trace = 0;
                for (int body : bodies[op - 53][c]) {
                    trace = 31 * trace + body;
                }
                Bench w = new Bench();
                w.run(act(18, 0, c, 0));
                due(op + " of CLASS " + c, w.run(act(op, 1, 0, 1)), trace == 0 ? endBy(CAST) : 0);
                due(op + " of CLASS " + c + ": THE TRACE", w.x.trace(), trace);
            }
        }
    }

    /** "THE TRACE, an int that wraps, 0 at first, becomes 31 times it and the number". */
    private static void traceWraps() {
        Bench w = new Bench();
        due("at first", w.x.trace(), 0);
        w.run(act(18, 0, 4, 0));
        int trace = 0;
        boolean below0 = false;
        for (int i = 0; i < 12; i++) {
            w.run(act(57, 0, 0, 0));
            trace = 31 * trace + 15;
            below0 = below0 || trace < 0;
            due("THE TRACE of " + (i + 1) + " bodies", w.x.trace(), trace);
        }
        due("it was below 0", below0 ? 1 : 0, 1);
    }

    private static long weighed(int c, long n, int leafMark, int twigMark, long v) {
        Bench w = new Bench();
        w.setNumber(0, n);
        w.setNumber(1, v);
        w.run(act(18, 0, c, 0), act(52, 0, 0, 0), act(0, 2, leafMark, 0), act(0, 3, twigMark, 0));
        w.run(act(52, 2, 7, 0));
        w.run(act(52, 3, 8, 0));
        due("53", w.run(act(53, 4, 0, 1)), 0);
        return w.x.number(0, 4);
    }

    /** "all wrap as Java does": WEIGH, in longs. */
    private static void weighWraps() {
        long max = Long.MAX_VALUE;
        long min = Long.MIN_VALUE;
        due("NODE's", weighed(0, max, 0, 0, 1), min);
        due("NODE's", weighed(0, min, 0, 0, -1), max);
        due("LEAF's: twice", weighed(1, 1L << 62, 0, 0, 0), min);
        due("LEAF's: and its MARK", weighed(1, (1L << 62) - 1, 5, 0, 0), min + 3);
        due("BUD has LEAF's", weighed(2, (1L << 62) - 1, 5, 0, 0), min + 3);
        due("LEAF's: no int", weighed(1, GREATEST, GREATEST, 0, GREATEST), 5L * GREATEST);
        due("TWIG's: less its MARK", weighed(3, 1L << 62, 0, 1, 0), max);
        due("TWIG's: less the least MARK", weighed(3, 0, 0, LEAST, 0), 1L << 31);
        due("STONE's: 0 less the least", weighed(4, min, 0, 0, 0), min);
        due("STONE's: 0 less a wrapped one", weighed(4, max, 0, 0, 1), min);
        due("STONE's", weighed(4, max, 0, 0, 0), -max);
    }

    private static Bench withX(int c, double x) {
        Bench w = new Bench();
        w.setDouble(0, x);
        w.run(act(18, 0, c, 0), act(52, 0, 1, 0));
        return w;
    }

    /** MEASURE of the CLASSES without a % is a number always: endless, where it is too large. */
    private static void measureAtItsEdges() {
        double[] xs = {0.0, -0.0, Double.MIN_VALUE, -Double.MIN_VALUE, Double.MAX_VALUE, -Double.MAX_VALUE,
            Double.MAX_VALUE / 2, Double.MAX_VALUE / 4, Double.POSITIVE_INFINITY, Double.NEGATIVE_INFINITY};
        for (double x : xs) {
            double[] want = {x, x + x, 2.0 * (x + x), 2.0 * (x + x)};
            for (int c = 0; c < 4; c++) {
                Bench w = withX(c, x);
                due("MEASURE of CLASS " + c + ", x " + x, w.run(act(54, 1, 0, 0)), 0);
                due("MEASURE of CLASS " + c + ", x " + x, w.x.real(0, 1), bits(want[c]));
            }
        }
    }

    /** "STONE's (8): x % 4.0; ENDLESS, if x is." */
    private static void stonesMeasure() {
        double[] xs = {0.0, -0.0, 4.0, -4.0, 8.0, -8.0, Math.nextDown(4.0), Math.nextUp(4.0), -Math.nextUp(4.0), 3.5, -3.5,
            Double.MIN_VALUE, -Double.MIN_VALUE, Double.MAX_VALUE, -Double.MAX_VALUE, 0x1p53 - 1, 0x1p53 + 2, 1e17};
        for (double x : xs) {
            Bench w = withX(4, x);
            due("x " + x, w.run(act(54, 1, 0, 0)), 0);
            due("x " + x, w.x.real(0, 1), bits(x % 4.0));
        }
        due("x endless", withX(4, Double.POSITIVE_INFINITY).run(act(54, 1, 0, 0)), endBy(ENDLESS));
        due("x endless below", withX(4, Double.NEGATIVE_INFINITY).run(act(54, 1, 0, 0)), endBy(ENDLESS));
    }

    /** A MEASURE that FAILED leaves nothing to the next. */
    private static void endlessIsOfOneMeasure() {
        Bench w = withX(4, Double.POSITIVE_INFINITY);
        w.run(act(18, 1, 0, 0), act(18, 2, 4, 0));
        for (int k = 1; k <= 2; k++) {
            due("x endless", w.run(act(54, 1, 0, 0)), endBy(ENDLESS));
            due("then of HOLD " + k, w.run(act(54, 1, k, 0)), 0);
        }
    }

    /** "COUNT: NODE's (9): TALLY becomes 1 more .. TWIG's (11): LEAF's and the NODE's MARK", as ints. */
    private static void countAtItsEdges() {
        int[] tallies = {1, 2, 2, 2, 1};
        for (int c = 0; c < 5; c++) {
            Bench w = new Bench();
            w.run(act(18, 0, c, 0), act(0, 0, GREATEST, 0), act(52, 0, 6, 0));
            for (int i = 1; i <= 3; i++) {
                w.run(act(55, 1, 0, 0));
                int tally = i * tallies[c];
                due("TALLY of CLASS " + c, w.x.field(0, 5), tally);
                due("COUNT of CLASS " + c, w.x.number(0, 1), c == 3 ? tally + GREATEST : tally);
            }
        }
    }

    private static long bloomed(int c, int leafMark, long v) {
        Bench w = new Bench();
        w.setNumber(0, v);
        w.run(act(18, 0, c, 0), act(0, 1, leafMark, 0), act(52, 1, 7, 0));
        due("56", w.run(act(56, 2, 0, 0)), 0);
        return w.x.number(0, 2);
    }

    /** "BLOOM v: BLOOMS' (12): 3 times v and PETALS", in longs; "7 and the LEAF's MARK", in ints. */
    private static void bloomWraps() {
        long max = Long.MAX_VALUE;
        due("BUD's", bloomed(2, 0, max), 3 * max + 5);
        due("BUD's has no MARK in it", bloomed(2, 99, 0), 5);
        due("BUD's over the edge", bloomed(2, 0, max / 3), 3 * (max / 3) + 5);
        due("TWIG's", bloomed(3, 0, Long.MIN_VALUE), 3 * Long.MIN_VALUE + 7);
        due("TWIG's no int", bloomed(3, 0, GREATEST), 3L * GREATEST + 7);
        due("TWIG's PETALS", bloomed(3, GREATEST - 7, 0), GREATEST);
        due("TWIG's PETALS over the edge", bloomed(3, GREATEST - 6, 0), LEAST);
        due("TWIG's PETALS below 0", bloomed(3, -8, 0), -1);
    }

    /** "HARDNESS: STONE's (15): f without its sign, as a double, twice." */
    private static void hardnessAtItsEdges() {
        float[] fs = {0.0f, -0.0f, 1.5f, -1.5f, Float.MAX_VALUE, -Float.MAX_VALUE, Float.MIN_VALUE, -Float.MIN_VALUE,
            Float.POSITIVE_INFINITY, Float.NEGATIVE_INFINITY};
        for (float f : fs) {
            Bench w = new Bench();
            w.setFloat(0, f);
            w.run(act(18, 0, 4, 0), act(52, 0, 2, 0));
            due("f " + f, w.run(act(57, 1, 0, 0)), 0);
            due("f " + f, w.x.real(0, 1), bits(2.0 * Math.abs((double) f)));
        }
    }
}
