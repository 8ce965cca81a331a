/** Ops 51 to 57, fields, METHODS and THE TRACE. Promises 6, 14, 16. */
public final class ObjectsTest {
    private static final Due DUE = new Due();
    private static final int NULL = -11, CAST = -13, ENDLESS = -18;
    private static final long LOST = Long.MIN_VALUE;

    public static void main(String[] args) {
        fields();
        fieldsRefused();
        marks();
        weigh();
        measure();
        tally();
        bloom();
        hardness();
        methodsRefused();
        DUE.finish();
    }

    private static void due(String call, long got, long want) {
        DUE.due(call, got, want);
    }

    private static int[] act(int op, int a, int b, int c) {
        return Bench.act(op, a, b, c);
    }

    private static long bits(double v) {
        return Double.doubleToLongBits(v);
    }

    private static int traced(int... bodies) {
        int trace = 0;
        for (int b : bodies) {
            trace = 31 * trace + b;
        }
        return trace;
    }

    private static void fields() {
        for (int c = 0; c < 5; c++) {
            Bench w = new Bench();
            w.run(act(18, 0, c, 0));
            for (int b = 0; b < 9; b++) {
                boolean has = b < 7 || b == 7 && c >= 1 && c <= 3 || b == 8 && c == 3;
                due("a new field " + b, w.x.field(0, b), !has ? LOST : b == 3 || b == 4 ? -1 : 0);
            }
            w.setNumber(0, 1L << 33);
            w.run(act(0, 1, 3, 0), act(14, 1, 4, 1), act(18, 2, 4, 0), act(1, 0, -5, -1), act(2, 0, 7, -2));
            due("52", w.run(act(52, 0, 0, 0), act(52, 0, 1, 0), act(52, 0, 2, 0), act(52, 2, 3, 0), act(52, 1, 4, 0)), 0);
            due("n", w.x.field(0, 0), 1L << 33);
            due("x", w.x.field(0, 1), bits(-2.5));
            due("f", w.x.field(0, 2), Float.floatToIntBits(1.75f));
            due("NEXT", w.x.field(0, 3), 2);
            due("LINE", w.x.field(0, 4), 1);
            due("51", w.run(act(51, 5, 0, 0), act(51, 3, 1, 0), act(51, 3, 2, 0), act(51, 6, 3, 0), act(51, 7, 4, 0)), 0);
            due("n", w.x.number(0, 5), 1L << 33);
            due("x", w.x.real(0, 3), bits(-2.5));
            due("f", w.x.small(0, 3), Float.floatToIntBits(1.75f));
            due("NEXT", w.x.hold(0, 6), 2);
            due("LINE", w.x.hold(0, 7), 1);
            due("none", w.run(act(13, 6, 0, 0), act(52, 6, 3, 0), act(52, 6, 4, 0)), 0);
            due("NEXT", w.x.field(0, 3), -1);
            due("LINE", w.x.field(0, 4), -1);
        }
    }

    private static void fieldsRefused() {
        Bench w = new Bench();
        w.run(act(14, 0, 4, 0), act(15, 1, 0, 0), act(18, 2, 2, 0));
        for (int b = 0; b < 9; b++) {
            int second = b == 4 ? 0 : b == 3 ? 2 : 0;
            due("51 of a ROW", w.run(act(51, 0, b, 0)), CAST);
            due("51 of a ROW of NODES", w.run(act(51, 0, b, 1)), CAST);
            due("51 of none", w.run(act(51, 0, b, 7)), NULL);
            if (b != 5) {
                due("52 of a ROW", w.run(act(52, second, b, 0)), CAST);
                due("52 of none", w.run(act(52, second, b, 7)), NULL);
            }
        }
        due("NEXT: a ROW", w.run(act(52, 0, 3, 2)), CAST);
        due("NEXT of none: a ROW: first CAST", w.run(act(52, 0, 3, 7)), CAST);
        due("LINE: an OBJECT", w.run(act(52, 2, 4, 2)), CAST);
        due("LINE of none: an OBJECT: first CAST", w.run(act(52, 2, 4, 7)), CAST);
        due("LINE: a ROW of NODES", w.run(act(52, 1, 4, 2)), CAST);
        due("nothing is changed", w.x.field(2, 3), -1);
        due("nothing is changed", w.x.field(2, 4), -1);
    }

    private static void marks() {
        for (int c = 0; c < 5; c++) {
            Bench w = new Bench();
            w.setNumber(0, (5L << 32) + 11);
            w.setNumber(1, (1L << 31) + 12);
            w.run(act(0, 2, 13, 0), act(18, 0, c, 0));
            boolean leaf = c >= 1 && c <= 3;
            due("the NODE's", w.run(act(52, 0, 6, 0), act(51, 3, 6, 0)), 0);
            due("the LEAF's", w.run(act(52, 1, 7, 0), act(51, 4, 7, 0)), leaf ? 0 : CAST);
            due("the TWIG's", w.run(act(52, 2, 8, 0), act(51, 5, 8, 0)), c == 3 ? 0 : CAST);
            due("the NODE's", w.x.number(0, 3), 11);
            due("the LEAF's", w.x.number(0, 4), leaf ? Integer.MIN_VALUE + 12 : 0);
            due("the TWIG's", w.x.number(0, 5), c == 3 ? 13 : 0);
            due("the NODE's", w.x.field(0, 6), 11);
            due("the LEAF's", w.x.field(0, 7), leaf ? Integer.MIN_VALUE + 12 : LOST);
            due("the TWIG's", w.x.field(0, 8), c == 3 ? 13 : LOST);
        }
    }

    /** An OBJECT of CLASS c in HOLD 0: n 100, x 2.5, f -0.75, MARKS 3, 20, 500, as far as it has them. */
    private static Bench object(int c) {
        Bench w = new Bench();
        w.run(act(18, 0, c, 0), act(0, 0, 100, 0), act(52, 0, 0, 0), act(1, 0, 5, -1), act(52, 0, 1, 0),
            act(2, 0, -3, -2), act(52, 0, 2, 0), act(0, 0, 3, 0), act(52, 0, 6, 0));
        w.run(act(0, 0, 20, 0), act(52, 0, 7, 0));
        w.run(act(0, 0, 500, 0), act(52, 0, 8, 0));
        w.run(act(0, 0, 7, 0));
        return w;
    }

    private static void weigh() {
        long[] want = {107, 234, 234, 234 - 500, -107};
        int[] trace = {traced(1), traced(2, 1), traced(2, 1), traced(3, 2, 1), traced(4, 1)};
        for (int c = 0; c < 5; c++) {
            Bench w = object(c);
            due("53", w.run(act(53, 1, 0, 0)), 0);
            due("WEIGH of " + c, w.x.number(0, 1), want[c]);
            due("trace of " + c, w.x.trace(), trace[c]);
            due("n stays", w.x.field(0, 0), 100);
        }
        Bench w = object(3);
        w.setNumber(0, Long.MAX_VALUE);
        w.run(act(53, 1, 0, 0));
        due("it wraps", w.x.number(0, 1), 2 * (100 + Long.MAX_VALUE) + 20 - 500);
    }

    private static void measure() {
        double[] want = {2.5, 5, 10, 10, 2.5};
        int[] trace = {traced(5), traced(6, 5), traced(7, 6, 5), traced(7, 6, 5), traced(8)};
        for (int c = 0; c < 5; c++) {
            Bench w = object(c);
            due("54", w.run(act(54, 1, 0, -1)), 0);
            due("MEASURE of " + c, w.x.real(0, 1), bits(want[c]));
            due("trace of " + c, w.x.trace(), trace[c]);
        }
        for (double x : new double[] {-4, 4, -0.0, 7.25, -9.5, 1e300, Double.MIN_VALUE, 0x1p53 - 1}) {
            Bench w = object(4);
            w.setDouble(0, x);
            w.run(act(52, 0, 1, 0), act(54, 1, 0, 0));
            due("STONE's of " + x, w.x.real(0, 1), bits(x % 4.0));
        }
        for (int c = 0; c < 5; c++) {
            Bench w = object(c);
            w.setDouble(0, Double.NEGATIVE_INFINITY);
            w.run(act(52, 0, 1, 0), act(1, 1, 1, 0));
            due("endless", w.run(act(54, 1, 0, 0)), c == 4 ? ENDLESS : 0);
            due("endless", w.x.real(0, 1), c == 4 ? bits(1) : bits(Double.NEGATIVE_INFINITY));
            due("its body was begun", w.x.trace(), trace[c]);
            w.run(act(1, 0, 9, 0), act(52, 0, 1, 0));
            due("and then not endless", w.run(act(54, 1, 0, 0)), 0);
            w.setDouble(0, Double.POSITIVE_INFINITY);
            due("of an endless one", w.run(act(52, 0, 1, 0), act(54, 1, 0, 0)), c == 4 ? ENDLESS : 0);
            due("and then of another", w.run(act(18, 1, 0, 0), act(54, 1, 1, 0)), 0);
        }
    }

    private static void tally() {
        long[][] want = {{1, 2}, {2, 4}, {2, 4}, {5, 7}, {1, 2}};
        int[] trace = {traced(9), traced(10, 9, 9), traced(10, 9, 9), traced(11, 10, 9, 9), traced(9)};
        for (int c = 0; c < 5; c++) {
            Bench w = object(c);
            due("55", w.run(act(55, 1, 0, 999)), 0);
            due("trace of " + c, w.x.trace(), trace[c]);
            due("COUNT of " + c, w.x.number(0, 1), want[c][0]);
            w.run(act(55, 1, 0, 0));
            due("COUNT of " + c, w.x.number(0, 1), want[c][1]);
            due("TALLY", w.x.field(0, 5), c == 0 || c == 4 ? 2 : 4);
            w.run(act(51, 2, 5, 0));
            due("51 5", w.x.number(0, 2), c == 0 || c == 4 ? 2 : 4);
        }
        Bench w = object(3);
        w.run(act(0, 0, Integer.MAX_VALUE, 0), act(52, 0, 6, 0), act(55, 1, 0, 0));
        due("COUNT wraps as ints do", w.x.number(0, 1), Integer.MIN_VALUE + 1);
    }

    private static void bloom() {
        Bench w = object(2);
        due("56 of a BUD", w.run(act(56, 1, 0, 0)), 0);
        due("56 of a BUD", w.x.number(0, 1), 26);
        due("trace", w.x.trace(), traced(12, 13));
        w = object(3);
        due("56 of a TWIG", w.run(act(56, 1, 0, 0)), 0);
        due("56 of a TWIG", w.x.number(0, 1), 48);
        due("trace", w.x.trace(), traced(12, 14));
        w.run(act(0, 0, Integer.MAX_VALUE, 0), act(52, 0, 7, 0), act(0, 0, 0, 0), act(56, 1, 0, 0));
        due("PETALS wrap as ints do", w.x.number(0, 1), Integer.MIN_VALUE + 6);
    }

    private static void hardness() {
        Bench w = object(4);
        due("57", w.run(act(57, 1, 0, -1)), 0);
        due("57", w.x.real(0, 1), bits(1.5));
        due("trace", w.x.trace(), traced(15));
        w.setFloat(0, Float.MAX_VALUE);
        w.run(act(52, 0, 2, 0), act(57, 1, 0, 0));
        due("twice as a double", w.x.real(0, 1), bits(2.0 * Float.MAX_VALUE));
        w.setFloat(0, -0.0f);
        w.run(act(52, 0, 2, 0), act(57, 1, 0, 0));
        due("of -0.0", w.x.real(0, 1), 0);
        w.setFloat(0, Float.NEGATIVE_INFINITY);
        w.run(act(52, 0, 2, 0), act(57, 1, 0, 0));
        due("of an endless one", w.x.real(0, 1), bits(Double.POSITIVE_INFINITY));
    }

    private static void methodsRefused() {
        for (int op = 53; op <= 57; op++) {
            for (int c = 0; c < 5; c++) {
                Bench w = object(c);
                boolean has = op < 56 || op == 56 && (c == 2 || c == 3) || op == 57 && c == 4;
                due(op + " of " + c, w.run(act(op, 1, 0, 0)), has ? 0 : CAST);
                due("a body was begun", w.x.trace() != 0 ? 1 : 0, has ? 1 : 0);
            }
            Bench w = new Bench();
            w.run(act(14, 0, 4, 0), act(15, 1, 2, 0));
            due(op + " of a ROW", w.run(act(op, 1, 0, 0)), CAST);
            due(op + " of a ROW of BUDS", w.run(act(op, 1, 1, 0)), CAST);
            due(op + " of none", w.run(act(op, 1, 7, 0)), NULL);
            due("no body was begun", w.x.trace(), 0);
        }
    }
}
