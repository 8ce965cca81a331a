/** Ops 0 to 11: what they answer is what Java's own operators and library answer. Promises 6 to 9. */
public final class FiguresTest {
    private static final Due DUE = new Due();
    private static final int ZERO = -16;
    private static final int ENDLESS = -18;

    private static final double[] DOUBLES = {
        0.0, -0.0, 0.3, -0.3, 0.5, -0.5, Math.nextDown(0.5), 1.0, -1.0, 1.5, 2.5, -2.5, 3.5, 4.0, -4.0, 5.25, -7.75,
        1e10 + 0.5, 0x1p52 - 0.5, 0x1p52 - 1.5, 0x1p52, 0x1p52 + 1, 0x1p53 + 2, -0x1p63, 0x1p63, 9.3e18, 2147483647.5,
        -2147483648.9, 1e300, -1e300, Double.MAX_VALUE, -Double.MAX_VALUE, Double.MIN_VALUE, -Double.MIN_VALUE,
        Double.MIN_NORMAL, Double.MIN_NORMAL - Double.MIN_VALUE, 1e-310, 0.1, 1.0 / 3, Math.PI * 1e5, 3e-40, 1e-46,
        3.5e38, 0x1.fffffefp127, Double.POSITIVE_INFINITY, Double.NEGATIVE_INFINITY};

    private static final float[] FLOATS = {
        0.0f, -0.0f, 0.3f, -0.5f, 0.5f, 1.0f, -1.0f, 1.5f, 2.5f, -2.5f, 3.75f, 8388607.5f, 8388608f, 1.6777217e7f, 1e10f,
        -2.2e9f, 9.3e18f, Float.MAX_VALUE, -Float.MAX_VALUE, Float.MIN_VALUE, -Float.MIN_VALUE, Float.MIN_NORMAL,
        Float.MIN_NORMAL - Float.MIN_VALUE, 1e-42f, 0.1f, 1e38f, -3e-20f, Float.POSITIVE_INFINITY,
        Float.NEGATIVE_INFINITY};

    private static final long[] NUMBERS = {
        0, 1, -1, 2, -2, 7, -7, 31, 32, 33, 63, 64, 65, 127, 128, 255, 32767, 32768, 65535, 65536, Integer.MAX_VALUE,
        Integer.MIN_VALUE, 1L << 31, 1L << 32, (1L << 32) + 5, -(1L << 32), 0x123456789abcdefL, (1L << 53) + 1,
        (1L << 24) + 1, Long.MAX_VALUE, Long.MIN_VALUE, Long.MAX_VALUE - 511};

    public static void main(String[] args) {
        constants();
        numbers();
        doubles();
        floats();
        casts();
        DUE.finish();
    }

    private static void due(String call, long got, long want) {
        DUE.due(call, got, want);
    }

    private static long bits(double v) {
        return Double.doubleToRawLongBits(v);
    }

    private static void constants() {
        Bench w = new Bench();
        due("0", w.run(Bench.act(0, 0, Integer.MIN_VALUE, 9)), 0);
        due("0", w.x.number(0, 0), Integer.MIN_VALUE);
        int[] factors = {0, 1, -3, 5, 16777217, -16777219, Integer.MAX_VALUE, Integer.MIN_VALUE};
        for (int b : factors) {
            for (int c : new int[] {-60, -59, -1, 0, 1, 31, 60}) {
                w = new Bench();
                w.run(Bench.act(1, 3, b, c), Bench.act(2, 3, b, c));
                due("1: " + b + ", " + c, w.x.real(0, 3), bits(b * Math.pow(2, c)));
                due("2: " + b + ", " + c, w.x.small(0, 3), Float.floatToRawIntBits((float) (b * Math.pow(2, c))));
            }
        }
    }

    private static void numbers() {
        for (long p : NUMBERS) {
            for (long q : NUMBERS) {
                Bench w = new Bench();
                w.setNumber(0, p);
                w.setNumber(1, q);
                due("a number", w.x.number(0, 0), p);
                for (int op = 0; op < 12; op++) {
                    String call = p + " op " + op + " " + q;
                    boolean zero = op == 3 || op == 4;
                    w.run(Bench.act(0, 3, 0, 0), Bench.act(3, 3, 0, 0));
                    due("3: " + call, w.run(Bench.act(3, 3, op, 1)), zero && q == 0 ? ZERO : 0);
                    due("3: " + call, w.x.number(0, 3), zero && q == 0 ? p : longs(op, p, q));
                    w.run(Bench.act(0, 3, 0, 0), Bench.act(3, 3, 0, 0));
                    due("4: " + call, w.run(Bench.act(4, 3, op, 1)), zero && (int) q == 0 ? ZERO : 0);
                    due("4: " + call, w.x.number(0, 3), zero && (int) q == 0 ? p : ints(op, (int) p, (int) q));
                }
            }
        }
        Bench w = new Bench();
        w.run(Bench.act(0, 2, 6, 0), Bench.act(3, 2, 2, 2));
        due("a register with itself", w.x.number(0, 2), 36);
    }

    private static long longs(int op, long p, long q) {
        long[] sums = {p + q, p - q, p * q, q == 0 ? 0 : p / q, q == 0 ? 0 : p % q, p << q, p >> q, p >>> q, p & q, p | q,
            p ^ q, Long.compare(p, q)};
        return sums[op];
    }

    private static long ints(int op, int p, int q) {
        int[] sums = {p + q, p - q, p * q, q == 0 ? 0 : p / q, q == 0 ? 0 : p % q, p << q, p >> q, p >>> q, p & q, p | q,
            p ^ q, Integer.compare(p, q)};
        return sums[op];
    }

    private static void doubles() {
        for (double p : DOUBLES) {
            Bench one = new Bench();
            one.setDouble(0, p);
            due("bits of " + p, one.x.real(0, 0), bits(p));
            double[] changed = {Math.abs(p), Math.floor(p), Math.ceil(p), Math.rint(p), Math.signum(p), -p};
            for (int fn = 0; fn < 6; fn++) {
                one.run(Bench.act(7, 1, fn, 0));
                due("7: fn " + fn + " of " + p, one.x.real(0, 1), bits(changed[fn]));
            }
            for (double q : DOUBLES) {
                Bench w = new Bench();
                w.setDouble(0, p);
                w.setDouble(1, q);
                double[] sums = {p + q, p - q, p * q, p / q, p % q, Math.max(p, q), Math.min(p, q), Math.copySign(p, q)};
                for (int op = 0; op < 8; op++) {
                    String call = "5: " + p + " op " + op + " " + q;
                    boolean endless = Double.isNaN(sums[op]);
                    w.run(Bench.act(1, 2, 0, 0), Bench.act(7, 2, 5, 0), Bench.act(7, 2, 5, 2));
                    due(call, w.run(Bench.act(5, 2, op, 1)), endless ? ENDLESS : 0);
                    due(call, w.x.real(0, 2), bits(endless ? p : sums[op]));
                }
                w.run(Bench.act(9, 4, 0, 1));
                due("9: " + p + ", " + q, w.x.number(0, 4), p < q ? -1 : p > q ? 1 : 0);
            }
        }
    }

    private static void floats() {
        for (float p : FLOATS) {
            Bench one = new Bench();
            one.setFloat(0, p);
            due("bits of " + p, one.x.small(0, 0), Float.floatToRawIntBits(p));
            double[] changed = {Math.abs(p), Math.floor(p), Math.ceil(p), Math.rint(p), Math.signum(p), -p};
            for (int fn = 0; fn < 6; fn++) {
                one.run(Bench.act(8, 1, fn, 0));
                due("8: fn " + fn + " of " + p, one.x.small(0, 1), Float.floatToRawIntBits((float) changed[fn]));
            }
            for (float q : FLOATS) {
                Bench w = new Bench();
                w.setFloat(0, p);
                w.setFloat(1, q);
                float[] sums = {p + q, p - q, p * q, p / q, p % q, Math.max(p, q), Math.min(p, q), Math.copySign(p, q)};
                for (int op = 0; op < 8; op++) {
                    String call = "6: " + p + " op " + op + " " + q;
                    boolean endless = Float.isNaN(sums[op]);
                    w.run(Bench.act(8, 2, 5, 0), Bench.act(8, 2, 5, 2));
                    due(call, w.run(Bench.act(6, 2, op, 1)), endless ? ENDLESS : 0);
                    due(call, w.x.small(0, 2), Float.floatToRawIntBits(endless ? p : sums[op]));
                }
                w.run(Bench.act(10, 4, 0, 1));
                due("10: " + p + ", " + q, w.x.number(0, 4), p < q ? -1 : p > q ? 1 : 0);
            }
        }
    }

    private static void casts() {
        for (double p : DOUBLES) {
            Bench w = new Bench();
            w.setDouble(0, p);
            w.run(Bench.act(11, 0, 1, 0), Bench.act(11, 1, 2, 0), Bench.act(11, 0, 7, 0));
            due("11 1: " + p, w.x.number(0, 0), (long) p);
            due("11 2: " + p, w.x.number(0, 1), (int) p);
            due("11 7: " + p, w.x.small(0, 0), Float.floatToRawIntBits((float) p));
        }
        for (float p : FLOATS) {
            Bench w = new Bench();
            w.setFloat(0, p);
            w.run(Bench.act(11, 0, 4, 0), Bench.act(11, 1, 5, 0), Bench.act(11, 0, 6, 0));
            due("11 4: " + p, w.x.number(0, 0), (long) p);
            due("11 5: " + p, w.x.number(0, 1), (int) p);
            due("11 6: " + p, w.x.real(0, 0), bits(p));
        }
        for (long p : NUMBERS) {
            Bench w = new Bench();
            w.setNumber(0, p);
            w.run(Bench.act(11, 0, 0, 0), Bench.act(11, 0, 3, 0), Bench.act(11, 1, 8, 0), Bench.act(11, 2, 9, 0),
                Bench.act(11, 3, 10, 0), Bench.act(11, 4, 11, 0));
            due("11 0: " + p, w.x.real(0, 0), bits(p));
            due("11 3: " + p, w.x.small(0, 0), Float.floatToRawIntBits(p));
            due("11 8: " + p, w.x.number(0, 1), (byte) p);
            due("11 9: " + p, w.x.number(0, 2), (short) p);
            due("11 10: " + p, w.x.number(0, 3), (char) p);
            due("11 11: " + p, w.x.number(0, 4), (int) p);
        }
    }
}
