/** Ops 0 to 11, at the edges that the document names for each. */
public final class EdgesOfFiguresTest extends Edges {
    private static final double ENDLESS_UP = Double.POSITIVE_INFINITY, ENDLESS_DOWN = Double.NEGATIVE_INFINITY;

    public static void main(String[] args) {
        numbersBecomeAnyInt();
        powersFrom60To60();
        nearestFloat();
        dividedBy0();
        zeroOfInts();
        longsWrap();
        intsWrap();
        shiftsByTooMuch();
        ordersOfNumbers();
        sumOfEndless();
        differenceOfEndless();
        productOf0AndEndless();
        quotientOfNothings();
        restOfNothings();
        restOfFarApart();
        tooLargeIsEndless();
        zerosAreOrdered();
        signsOfZeros();
        withoutItsSign();
        wholeNumbers();
        floatsByWayOfDoubles();
        signItself();
        lessItself();
        comparesZeros();
        castsOfTooLarge();
        castsToFewerBits();
        castsRound();
        DUE.finish();
    }

    /** "0 N a becomes b." */
    private static void numbersBecomeAnyInt() {
        for (int b : new int[] {LEAST, -1, 0, 1, GREATEST}) {
            Bench w = new Bench();
            due("0", w.run(act(0, 7, b, LEAST)), 0);
            due("0: " + b, w.x.number(0, 7), b);
        }
    }

    /** "1, 2 X a (F a) becomes b times 2 to the c (-60 .. 60 ..)". */
    private static void powersFrom60To60() {
        for (int op = 1; op <= 2; op++) {
            for (int b : new int[] {LEAST, -1, 0, 1, GREATEST}) {
                Bench w = new Bench();
                due("-61", w.x.act(1, op, 0, b, -61), -1);
                due("61", w.x.act(1, op, 0, b, 61), -1);
                due("1, 2", w.run(act(op, 0, b, -60), act(op, 1, b, 60), act(op, 2, b, 0)), 0);
                int[] powers = {-60, 60, 0};
                for (int k = 0; k < 3; k++) {
                    double want = b * Math.pow(2, powers[k]);
                    String call = op + ": " + b + " times 2 to the " + powers[k];
                    due(call, op == 1 ? w.x.real(0, k) : w.x.small(0, k), op == 1 ? bits(want) : bits((float) want));
                }
            }
        }
    }

    /** "(.. the nearest float)": the even one of two. */
    private static void nearestFloat() {
        int[] bs = {16777217, 16777219, 33554434, 33554435, 33554438, -16777217, -16777219, GREATEST, LEAST + 1};
        for (int b : bs) {
            for (int c : new int[] {-60, 0, 60}) {
                Bench w = new Bench();
                w.run(act(2, 0, b, c));
                due("2: " + b + ", " + c, w.x.small(0, 0), bits((float) ((double) b * Math.pow(2, c))));
            }
        }
        Bench w = new Bench();
        w.run(act(2, 0, 16777217, 0), act(2, 1, 16777219, 0));
        due("down to the even one", w.x.small(0, 0), bits(16777216f));
        due("up to the even one", w.x.small(0, 1), bits(16777220f));
    }

    private static void joined(String call, int op, int how, long p, long q, long want) {
        Bench w = new Bench();
        w.setNumber(0, p);
        w.setNumber(1, q);
        due(call, w.run(act(op, 0, how, 1)), 0);
        due(call, w.x.number(0, 0), want);
    }

    /** "(by 0: ZERO)". */
    private static void dividedBy0() {
        for (int how = 3; how <= 4; how++) {
            for (long p : new long[] {0, 1, -1, Long.MIN_VALUE, Long.MAX_VALUE}) {
                Bench w = new Bench();
                w.setNumber(0, p);
                due("3: by 0", w.run(act(3, 0, how, 1)), endBy(ZERO));
                due("4: by 0", w.run(act(4, 0, how, 1)), endBy(ZERO));
                due("nothing is changed", w.x.number(0, 0), p);
            }
        }
        for (int how = 0; how < 12; how++) {
            if (how < 3 || how > 4) {
                due("no ZERO by " + how, new Bench().run(act(3, 0, how, 1), act(4, 0, how, 1)), 0);
            }
        }
    }

    /** "4 as ints of their lowest 32 bits": one whose lowest bits are 0 is 0. */
    private static void zeroOfInts() {
        for (int how = 3; how <= 4; how++) {
            Bench w = new Bench();
            w.setNumber(1, 1L << 32);
            due("4: by 2 to the 32", w.run(act(0, 0, 5, 0), act(4, 0, how, 1)), endBy(ZERO));
            due("3: by 2 to the 32", w.run(act(3, 0, how, 1)), 0);
            due("3: by 2 to the 32", w.x.number(0, 0), how == 3 ? 0 : 5);
        }
    }

    /** "3 N a becomes N a op N c, as longs". */
    private static void longsWrap() {
        long min = Long.MIN_VALUE;
        long max = Long.MAX_VALUE;
        joined("greatest + 1", 3, 0, max, 1, min);
        joined("least - 1", 3, 1, min, 1, max);
        joined("0 - least", 3, 1, 0, min, min);
        joined("greatest * 2", 3, 2, max, 2, -2);
        joined("least * -1", 3, 2, min, -1, min);
        joined("least / -1", 3, 3, min, -1, min);
        joined("least % -1", 3, 4, min, -1, 0);
        joined("-7 / 2", 3, 3, -7, 2, -3);
        joined("-7 % 2", 3, 4, -7, 2, -1);
        joined("7 % -2", 3, 4, 7, -2, 1);
    }

    /** "4 as ints of their lowest 32 bits". */
    private static void intsWrap() {
        long high = 5L << 32;
        joined("greatest + 1", 4, 0, high + GREATEST, 1, LEAST);
        joined("least - 1", 4, 1, LEAST, high + 1, GREATEST);
        joined("greatest * 2", 4, 2, GREATEST, high + 2, -2);
        joined("least / -1", 4, 3, LEAST, -1, LEAST);
        joined("least % -1", 4, 4, LEAST, -1, 0);
        joined("2 to the 31 is below 0", 4, 0, 1L << 31, 0, LEAST);
        joined("a high bit is not looked at", 4, 0, high, high, 0);
        joined("-1 >>> 1", 4, 7, -1, 1, GREATEST);
        joined("and, in ints", 4, 8, -1, high + 3, 3);
        joined("or, in ints", 4, 9, high, 3, 3);
        joined("either, in ints", 4, 10, high + 1, 3, 2);
    }

    /** "5 << 6 >> 7 >>>": as Java does, by the lowest 6 (5) bits. */
    private static void shiftsByTooMuch() {
        joined("1 << 63", 3, 5, 1, 63, Long.MIN_VALUE);
        joined("1 << 64", 3, 5, 1, 64, 1);
        joined("1 << -1", 3, 5, 1, -1, Long.MIN_VALUE);
        joined("-1 >> 65", 3, 6, -4, 65, -2);
        joined("-1 >>> 63", 3, 7, -1, 63, 1);
        joined("-1 >>> 64", 3, 7, -1, 64, -1);
        joined("1 << 31", 4, 5, 1, 31, LEAST);
        joined("1 << 32", 4, 5, 1, 32, 1);
        joined("1 << -1", 4, 5, 1, -1, LEAST);
        joined("-4 >> 33", 4, 6, -4, 33, -2);
        joined("-1 >>> 31", 4, 7, -1, 31, 1);
        joined("-1 >>> 32", 4, 7, -1, 32, -1);
    }

    /** "11 -1, 0, 1: less, as much, more." */
    private static void ordersOfNumbers() {
        long min = Long.MIN_VALUE;
        joined("least, greatest", 3, 11, min, Long.MAX_VALUE, -1);
        joined("greatest, least", 3, 11, Long.MAX_VALUE, min, 1);
        joined("as much", 3, 11, min, min, 0);
        joined("as ints as much", 4, 11, 1L << 32, 0, 0);
        joined("as ints less", 4, 11, 1L << 31, 0, -1);
        joined("as longs more", 3, 11, 1L << 31, 0, 1);
    }

    private static Bench reals(double p, double q) {
        Bench w = new Bench();
        w.setFloat(0, (float) p);
        w.setFloat(1, (float) q);
        w.setDouble(0, p);
        w.setDouble(1, q);
        return w;
    }

    /** p op q FAILS as ENDLESS, as doubles and as floats. */
    private static void endless(int how, double p, double q) {
        Bench w = reals(p, q);
        String call = p + " op " + how + " " + q;
        due("5: " + call, w.run(act(5, 0, how, 1)), endBy(ENDLESS));
        due("6: " + call, w.run(act(6, 0, how, 1)), endBy(ENDLESS));
        due("X a stays", w.x.real(0, 0), bits(p));
        due("F a stays", w.x.small(0, 0), bits((float) p));
    }

    private static void comes(int how, double p, double q, double want) {
        Bench w = reals(p, q);
        String call = p + " op " + how + " " + q;
        due("5: " + call, w.run(act(5, 0, how, 1)), 0);
        due("6: " + call, w.run(act(6, 0, how, 1)), 0);
        due("5: " + call, w.x.real(0, 0), bits(want));
        due("6: " + call, w.x.small(0, 0), bits((float) want));
    }

    /** "ENDLESS: endless and endless of the other sign (0 ..)". */
    private static void sumOfEndless() {
        endless(0, ENDLESS_UP, ENDLESS_DOWN);
        endless(0, ENDLESS_DOWN, ENDLESS_UP);
        comes(0, ENDLESS_UP, ENDLESS_UP, ENDLESS_UP);
        comes(0, ENDLESS_DOWN, ENDLESS_DOWN, ENDLESS_DOWN);
        comes(0, ENDLESS_DOWN, 1.0, ENDLESS_DOWN);
        comes(0, -1.0, ENDLESS_UP, ENDLESS_UP);
        comes(0, -0.0, -0.0, -0.0);
        comes(0, -0.0, 0.0, 0.0);
    }

    /** "(.. of one sign 1)". */
    private static void differenceOfEndless() {
        endless(1, ENDLESS_UP, ENDLESS_UP);
        endless(1, ENDLESS_DOWN, ENDLESS_DOWN);
        comes(1, ENDLESS_UP, ENDLESS_DOWN, ENDLESS_UP);
        comes(1, ENDLESS_DOWN, ENDLESS_UP, ENDLESS_DOWN);
        comes(1, 1.0, ENDLESS_UP, ENDLESS_DOWN);
        comes(1, -0.0, 0.0, -0.0);
        comes(1, 0.0, 0.0, 0.0);
    }

    /** "0.0 and endless (2)". */
    private static void productOf0AndEndless() {
        for (double zero : new double[] {0.0, -0.0}) {
            for (double far : new double[] {ENDLESS_UP, ENDLESS_DOWN}) {
                endless(2, zero, far);
                endless(2, far, zero);
            }
        }
        comes(2, ENDLESS_UP, ENDLESS_DOWN, ENDLESS_DOWN);
        comes(2, -0.0, 0.0, -0.0);
        comes(2, -1.0, ENDLESS_UP, ENDLESS_DOWN);
        comes(2, 5.0, -0.0, -0.0);
    }

    /** "both 0.0 or both endless (3)". */
    private static void quotientOfNothings() {
        for (double p : new double[] {0.0, -0.0}) {
            for (double q : new double[] {0.0, -0.0}) {
                endless(3, p, q);
            }
        }
        for (double p : new double[] {ENDLESS_UP, ENDLESS_DOWN}) {
            for (double q : new double[] {ENDLESS_UP, ENDLESS_DOWN}) {
                endless(3, p, q);
            }
        }
        comes(3, 1.0, 0.0, ENDLESS_UP);
        comes(3, 1.0, -0.0, ENDLESS_DOWN);
        comes(3, -1.0, 0.0, ENDLESS_DOWN);
        comes(3, ENDLESS_DOWN, 0.0, ENDLESS_DOWN);
        comes(3, 0.0, ENDLESS_DOWN, -0.0);
        comes(3, 1.0, ENDLESS_UP, 0.0);
    }

    /** "the second 0.0 or the first endless (4)". */
    private static void restOfNothings() {
        for (double p : new double[] {0.0, 1.0, -1.0, ENDLESS_UP, ENDLESS_DOWN}) {
            endless(4, p, 0.0);
            endless(4, p, -0.0);
        }
        for (double q : new double[] {1.0, -1.0, ENDLESS_UP, ENDLESS_DOWN}) {
            endless(4, ENDLESS_UP, q);
            endless(4, ENDLESS_DOWN, q);
        }
        comes(4, 5.0, ENDLESS_DOWN, 5.0);
        comes(4, -5.0, ENDLESS_UP, -5.0);
        comes(4, 0.0, 3.0, 0.0);
        comes(4, -0.0, 3.0, -0.0);
        comes(4, -6.0, 3.0, -0.0);
        comes(4, 7.0, -4.0, 3.0);
        comes(4, -7.0, 4.0, -3.0);
    }

    /** "4 %" is exact, however far apart the two are. */
    private static void restOfFarApart() {
        double[] ps = {Double.MAX_VALUE, -Double.MAX_VALUE, 1e300, 1.0, Math.nextDown(1.0), 3 * Double.MIN_VALUE,
            Double.MIN_NORMAL, Math.nextDown(Double.MIN_NORMAL), -0x1p1023};
        double[] qs = {Double.MIN_VALUE, 2 * Double.MIN_VALUE, 3 * Double.MIN_VALUE, Double.MIN_NORMAL, 0.1,
            Math.nextDown(2.0), 3.0, -3.0, 0x1.fffffffffffffp-1022, Double.MAX_VALUE, Math.nextDown(Double.MIN_NORMAL)};
        for (double p : ps) {
            for (double q : qs) {
                Bench w = new Bench();
                w.setDouble(0, p);
                w.setDouble(1, q);
                due(p + " % " + q, w.run(act(5, 0, 4, 1)), 0);
                due(p + " % " + q, w.x.real(0, 0), bits(p % q));
            }
        }
        float[] fs = {Float.MAX_VALUE, -1.0f, 3 * Float.MIN_VALUE, Float.MIN_NORMAL, 0.1f, Math.nextDown(2.0f)};
        for (float p : fs) {
            for (float q : fs) {
                Bench w = new Bench();
                w.setFloat(0, p);
                w.setFloat(1, q);
                due(p + " % " + q, w.run(act(6, 0, 4, 1)), 0);
                due(p + " % " + q, w.x.small(0, 0), bits(p % q));
            }
        }
    }

    /** Beyond the greatest it is endless, and no FAILURE; nearer to 0.0 than the least it is 0.0. */
    private static void tooLargeIsEndless() {
        Bench w = new Bench();
        w.setDouble(0, Double.MAX_VALUE);
        w.setFloat(0, Float.MAX_VALUE);
        w.setDouble(0, Double.MAX_VALUE);
        due("doubles", w.run(act(5, 0, 0, 0)), 0);
        due("doubles", w.x.real(0, 0), bits(ENDLESS_UP));
        due("floats", w.run(act(6, 0, 0, 0)), 0);
        due("floats", w.x.small(0, 0), bits(Float.POSITIVE_INFINITY));
        w.setFloat(0, -Float.MIN_VALUE);
        w.setDouble(0, -Double.MIN_VALUE);
        due("halves", w.run(act(1, 1, 1, -1), act(2, 1, 1, -1), act(5, 0, 2, 1), act(6, 0, 2, 1)), 0);
        due("half of the least", w.x.real(0, 0), bits(-0.0));
        due("half of the least", w.x.small(0, 0), bits(-0.0f));
        w.run(act(2, 2, GREATEST, 60), act(6, 2, 2, 2));
        due("a float's greatest is not a double's", w.x.small(0, 2), bits(Float.POSITIVE_INFINITY));
    }

    /** "5 the greater 6 the lesser (-0.0 is less than 0.0)". */
    private static void zerosAreOrdered() {
        comes(5, -0.0, 0.0, 0.0);
        comes(5, 0.0, -0.0, 0.0);
        comes(5, -0.0, -0.0, -0.0);
        comes(6, -0.0, 0.0, -0.0);
        comes(6, 0.0, -0.0, -0.0);
        comes(6, 0.0, 0.0, 0.0);
        comes(5, ENDLESS_UP, ENDLESS_DOWN, ENDLESS_UP);
        comes(6, ENDLESS_UP, ENDLESS_DOWN, ENDLESS_DOWN);
        comes(5, ENDLESS_DOWN, -1.0, -1.0);
        comes(6, 1.0, ENDLESS_UP, 1.0);
    }

    /** "7 X a with the sign of X c". */
    private static void signsOfZeros() {
        comes(7, 2.0, -0.0, -2.0);
        comes(7, -2.0, 0.0, 2.0);
        comes(7, -2.0, -0.0, -2.0);
        comes(7, 0.0, -5.0, -0.0);
        comes(7, -0.0, 5.0, 0.0);
        comes(7, ENDLESS_UP, -1.0, ENDLESS_DOWN);
        comes(7, 1.0, ENDLESS_DOWN, -1.0);
    }

    private static void fn(int how, double v, double want) {
        Bench w = reals(v, 0.0);
        due("fn " + how + " of " + v, w.run(act(7, 2, how, 0), act(8, 2, how, 0)), 0);
        due("7: fn " + how + " of " + v, w.x.real(0, 2), bits(want));
        due("8: fn " + how + " of " + v, w.x.small(0, 2), bits((float) want));
    }

    /** "0 without its sign". */
    private static void withoutItsSign() {
        fn(0, -0.0, 0.0);
        fn(0, 0.0, 0.0);
        fn(0, -1.5, 1.5);
        fn(0, ENDLESS_DOWN, ENDLESS_UP);
    }

    /** "1 the greatest whole number that is not above 2 the least that is not below 3 the nearest whole one, the even one of two". */
    private static void wholeNumbers() {
        double[] vs = {0.0, -0.0, 0.5, -0.5, 1.5, -1.5, 2.5, -2.5, 3.0, -3.0, 0.25, -0.25, 0.75, -0.75, 4194303.5,
            -4194303.5, 0x1p23, -0x1p24, 0x1p60, -0x1p63, 0x1p100, ENDLESS_UP, ENDLESS_DOWN};
        for (double v : vs) {
            fn(1, v, Math.floor(v));
            fn(2, v, Math.ceil(v));
            fn(3, v, Math.rint(v));
        }
        double[] doubles = {0x1p52 - 0.5, 0x1p51 + 0.5, 0x1p52, 0x1p52 + 1, -0x1p52 + 0.5, Double.MIN_VALUE,
            -Double.MIN_VALUE, Double.MAX_VALUE, Math.nextDown(0.5), Math.nextUp(-0.5)};
        for (double v : doubles) {
            Bench w = new Bench();
            w.setDouble(0, v);
            w.run(act(7, 1, 1, 0), act(7, 2, 2, 0), act(7, 3, 3, 0));
            due("floor of " + v, w.x.real(0, 1), bits(Math.floor(v)));
            due("ceil of " + v, w.x.real(0, 2), bits(Math.ceil(v)));
            due("rint of " + v, w.x.real(0, 3), bits(Math.rint(v)));
        }
    }

    /** "8: 1 to 3 by way of doubles". */
    private static void floatsByWayOfDoubles() {
        float[] vs = {8388607.5f, -8388607.5f, 8388606.5f, Float.MIN_VALUE, -Float.MIN_VALUE, Float.MAX_VALUE,
            -Float.MAX_VALUE, Math.nextDown(0.5f)};
        for (float v : vs) {
            Bench w = new Bench();
            w.setFloat(0, v);
            w.run(act(8, 1, 1, 0), act(8, 2, 2, 0), act(8, 3, 3, 0));
            due("floor of " + v, w.x.small(0, 1), bits((float) Math.floor(v)));
            due("ceil of " + v, w.x.small(0, 2), bits((float) Math.ceil(v)));
            due("rint of " + v, w.x.small(0, 3), bits((float) Math.rint(v)));
        }
    }

    /** "4 1.0, -1.0 or itself (0.0s) by its sign". */
    private static void signItself() {
        fn(4, 0.0, 0.0);
        fn(4, -0.0, -0.0);
        fn(4, 0x1p-149, 1.0);
        fn(4, -0x1p-149, -1.0);
        fn(4, ENDLESS_UP, 1.0);
        fn(4, ENDLESS_DOWN, -1.0);
    }

    /** "5 less itself." */
    private static void lessItself() {
        fn(5, 0.0, -0.0);
        fn(5, -0.0, 0.0);
        fn(5, 1.5, -1.5);
        fn(5, ENDLESS_DOWN, ENDLESS_UP);
    }

    /** "9 N a becomes -1, 0, 1: X b below, as much as, above X c (-0.0 as much as 0.0); 10 likewise". */
    private static void comparesZeros() {
        double[][] pairs = {{-0.0, 0.0, 0}, {0.0, -0.0, 0}, {ENDLESS_DOWN, ENDLESS_UP, -1}, {ENDLESS_UP, ENDLESS_DOWN, 1},
            {ENDLESS_UP, ENDLESS_UP, 0}, {0x1p-149, 0.0, 1}, {-0x1p-149, -0.0, -1}, {1.0, 1.0, 0}};
        for (double[] p : pairs) {
            Bench w = reals(p[0], p[1]);
            due("9, 10", w.run(act(9, 4, 0, 1), act(10, 5, 0, 1)), 0);
            due("9: " + p[0] + ", " + p[1], w.x.number(0, 4), (long) p[2]);
            due("10: " + p[0] + ", " + p[1], w.x.number(0, 5), (long) p[2]);
        }
    }

    /** "11 by b: .. 1, 2 N a becomes X c as a long, as an int, .. 4, 5 N a F c as a long, an int (As Java casts.)" */
    private static void castsOfTooLarge() {
        double[] vs = {0x1p63, -0x1p63, 0x1p64, -0x1p64, 0x1p31, -0x1p31, -0x1p32, 0x1p32, ENDLESS_UP, ENDLESS_DOWN, 0.75,
            -0.75, -0.0, 0x1p62};
        for (double v : vs) {
            Bench w = reals(v, 0.0);
            due("11", w.run(act(11, 0, 1, 0), act(11, 1, 2, 0), act(11, 2, 4, 0), act(11, 3, 5, 0)), 0);
            due(v + " as a long", w.x.number(0, 0), (long) v);
            due(v + " as an int", w.x.number(0, 1), (int) v);
            due(v + ", a float, as a long", w.x.number(0, 2), (long) (float) v);
            due(v + ", a float, as an int", w.x.number(0, 3), (int) (float) v);
        }
    }

    /** "8, 9, 10, 11 N a N c as a byte, short, char, int." */
    private static void castsToFewerBits() {
        long[] vs = {127, 128, -128, -129, 255, 256, 32767, 32768, -32768, -32769, 65535, 65536, -1, GREATEST, 1L << 31,
            LEAST, LEAST - 1L, 1L << 32, Long.MAX_VALUE, Long.MIN_VALUE};
        for (long v : vs) {
            Bench w = new Bench();
            w.setNumber(0, v);
            w.run(act(11, 1, 8, 0), act(11, 2, 9, 0), act(11, 3, 10, 0), act(11, 4, 11, 0));
            due(v + " as a byte", w.x.number(0, 1), (byte) v);
            due(v + " as a short", w.x.number(0, 2), (short) v);
            due(v + " as a char", w.x.number(0, 3), (char) v);
            due(v + " as an int", w.x.number(0, 4), (int) v);
        }
    }

    /** "0 X a becomes N c, .. 3 F a N c, .. 6 X a F c, 7 F a X c": to the nearest, to endless, to 0.0. */
    private static void castsRound() {
        long[] vs = {(1L << 53) + 1, (1L << 53) + 3, (1L << 24) + 1, (1L << 24) + 3, Long.MAX_VALUE, Long.MIN_VALUE};
        for (long v : vs) {
            Bench w = new Bench();
            w.setNumber(0, v);
            w.run(act(11, 0, 0, 0), act(11, 0, 3, 0));
            due(v + " as a double", w.x.real(0, 0), bits((double) v));
            due(v + " as a float", w.x.small(0, 0), bits((float) v));
        }
        double[] doubles = {Double.MAX_VALUE, -Double.MAX_VALUE, 0x1.fffffefp127, 0x1.fffffep127, 0x1p-150, 0x1.8p-150,
            -0x1p-151, 0x1.000001p0, 0x1.000003p0, -0.0, ENDLESS_DOWN};
        for (double v : doubles) {
            Bench w = new Bench();
            w.setDouble(0, v);
            w.run(act(11, 1, 7, 0), act(11, 1, 6, 1));
            due(v + " as a float", w.x.small(0, 1), bits((float) v));
            due(v + " as a float, as a double", w.x.real(0, 1), bits((double) (float) v));
        }
    }
}
