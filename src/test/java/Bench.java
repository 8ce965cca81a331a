/** A MachineWitness on which PROGRAM 0 is written, run by THREAD 0 and emptied, at one go. */
final class Bench {
    final MachineWitness x = new MachineWitness();

    /** What turn() answered. */
    int run(int[]... acts) {
        return runBy(0, acts);
    }

    int runBy(int thread, int[]... acts) {
        for (int[] a : acts) {
            if (x.act(0, a[0], a[1], a[2], a[3]) < 0) {
                throw new IllegalStateException("a test's act was refused: " + java.util.Arrays.toString(a));
            }
        }
        x.start(thread, 0);
        int answer = x.turn(thread, 500);
        x.empty(0);
        return answer;
    }

    static int[] act(int op, int a, int b, int c) {
        return new int[] {op, a, b, c};
    }

    /** NUMBER k (not 7) of THREAD 0 becomes v; NUMBER 7 is lost. */
    void setNumber(int k, long v) {
        run(act(0, k, (int) (v >> 32), 0));
        for (int shift = 16; shift >= 0; shift -= 16) {
            run(act(0, 7, 16, 0), act(3, k, 5, 7), act(0, 7, (int) (v >> shift) & 0xffff, 0), act(3, k, 9, 7));
        }
    }

    /** DOUBLE k of THREAD 0 becomes v, by ops 1, 5 and 7; DOUBLE 3 is lost. */
    void setDouble(int k, double v) {
        double size = Math.abs(v);
        if (size == Double.POSITIVE_INFINITY) {
            run(act(1, k, 1, 0), act(1, 3, 1, 60));
            for (int i = 0; i < 18; i++) {
                run(act(5, k, 2, 3));
            }
        } else {
            long bits = Double.doubleToLongBits(size);
            int e = Math.max((int) (bits >> 52), 1) - 1075;
            long digits = (bits & 0xfffffffffffffL) + (bits >> 52 == 0 ? 0 : 1L << 52);
            run(act(1, k, (int) (digits >> 26), 26), act(1, 3, (int) (digits & 0x3ffffff), 0), act(5, k, 0, 3));
            for (int left = e; left != 0;) {
                int step = Math.max(-60, Math.min(60, left));
                run(act(1, 3, 1, step), act(5, k, 2, 3));
                left -= step;
            }
        }
        if (1 / v < 0 || v < 0) {
            run(act(7, k, 5, k));
        }
    }

    /** FLOAT k of THREAD 0 becomes v; DOUBLES 2 and 3 are lost. */
    void setFloat(int k, float v) {
        setDouble(2, v);
        run(act(11, k, 7, 2));
    }
}
