/** What the tests of the edges share. Each of their methods tests one sentence of the document. */
abstract class Edges {
    static final Due DUE = new Due();
    static final int NULL = 1, INDEX = 2, CAST = 3, STORE = 4, SIZE = 5, ZERO = 6, OWNER = 7, ENDLESS = 8, ROOM = 9;
    static final int KIND = 10, SPENT = 11;
    static final long LOST = Long.MIN_VALUE;
    static final int LEAST = Integer.MIN_VALUE, GREATEST = Integer.MAX_VALUE;

    static void due(String call, long got, long want) {
        DUE.due(call, got, want);
    }

    /** For texts of State. */
    static void dueSame(String call, String got, String want) {
        DUE.due(call + (got.equals(want) ? "" : "\n  is " + got + "\n  was " + want + "\n "), got.equals(want) ? 1 : 0, 1);
    }

    static int[] act(int op, int a, int b, int c) {
        return Bench.act(op, a, b, c);
    }

    static final int[] SORTS = {0, 1, 2, 3, 4, 5, 6, 7, 8, 9, 10, 11, 12, 13, 14, 16, 17, 18, 19, 20};

    /** The ACT by which HOLD 0 becomes a new THING of a SORT, of N 0 ITEMS if it is a ROW. */
    static int[] making(int sort) {
        if (sort < 8) {
            return act(14, 0, sort, 0);
        }
        if (sort < 13) {
            return act(15, 0, sort - 8, 0);
        }
        return sort < 16 ? act(sort + 3, 0, 0, 0) : act(18, 0, sort - 16, 0);
    }

    static long bits(double v) {
        return Double.doubleToRawLongBits(v);
    }

    static long bits(float v) {
        return Float.floatToRawIntBits(v);
    }

    /** What turn() answers of a THREAD that has ended by a FAILURE. */
    static int endBy(int failure) {
        return -10 - failure;
    }

    /** The told() of a THREAD, as far as it is given. */
    static void told(String when, MachineWitness x, int thread, int... want) {
        for (int k = 0; k < want.length; k++) {
            due(when + ": told " + k, x.told(thread, k), want[k]);
        }
    }
}
