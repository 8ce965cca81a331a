/** A MachineWitness on which PROGRAM 0 is written, run by THREAD 0 and emptied, at one go. */
final class Bench {
    final MachineWitness x = new MachineWitness();

    /** What turn() answered. */
    int run(int[]... acts) {
        return runBy(0, acts);
    }

    int runBy(int thread, int[]... acts) {
        for (int[] a : acts) {
            if (x.act(0, a[0], a[1], a[2], a[3]) < 0) {
                throw new IllegalStateException("a test's act was refused: " + java.util.Arrays.toString(a));
            }
        }
        x.start(thread, 0);
        int answer = x.turn(thread, 500);
        x.empty(0);
        return answer;
    }

    static int[] act(int op, int a, int b, int c) {
        return new int[] {op, a, b, c};
    }

    /** NUMBER k (not 7) of THREAD 0 becomes v; NUMBER 7 is lost. */
    void setNumber(int k, long v) {
        run(act(0, k, (int) (v >> 32), 0));
        for (int shift = 16; shift >= 0; shift -= 16) {
            run(act(0, 7, 16, 0), act(3, k, 5, 7), act(0, 7, (int) (v >> shift) & 0xffff, 0), act(3, k, 9, 7));
        }
    }

    /** DOUBLE k of THREAD 0 becomes v, by ops 1, 5 and 7; DOUBLE 3 is lost. */
    void setDouble(int k, double v) {
        double size = Math.abs(v);
        if (size == Double.POSITIVE_INFINITY) {
            run(act(1, k, 1, 0), act(1, 3, 1, 60));
            for (int i = 0; i < 18; i++) {
                run(act(5, k, 2, 3));
            }
        } else {
            long bits = Double.doubleToLongBits(size);
            int e = Math.max((int) (bits >> 52), 1) - 1075;
            long digits = (bits & 0xfffffffffffffL) + (bits >> 52 == 0 ? 0 : 1L << 52);
            run(act(1, k, (int) (digits >> 26), 26), act(1, 3, (int) (digits & 0x3ffffff), 0), act(5, k, 0, 3));
            for (int left = e; left != 0;) {
                int step = Math.max(-60, Math.min(60, left));
                run(act(1, 3, 1, step), act(5, k, 2, 3));
                left -= step;
            }
        }
        if (1 / v < 0 || v < 0) {
            run(act(7, k, 5, k));
        }
    }

    /** FLOAT k of THREAD 0 becomes v; DOUBLES 2 and 3 are lost. */
    void setFloat(int k, float v) {
        setDouble(2, v);
        run(act(11, k, 7, 2));
    }

    /**
     * NUMBERS 0, 1, 2, -1, 13, 7, 7, 99; DOUBLES and FLOATS 0.0, endless, the other endless, 1.0.
     * HOLDS: 0 two ints; 1 two LEAVES (none); 2 a TWIG; 3 a STONE, its x endless; 4 two ROWS of an int;
     * 5 two ROWS of a double; 6 two doubles; 7 none.
     */
    static Bench furnished() {
        Bench w = new Bench();
        w.run(act(0, 1, 1, 0), act(0, 2, 2, 0), act(0, 3, -1, 0), act(0, 4, 13, 0), act(0, 5, 7, 0), act(0, 6, 7, 0),
            act(0, 7, 99, 0), act(14, 0, 4, 2), act(15, 1, 1, 2), act(18, 2, 3, 0), act(18, 3, 4, 0), act(16, 4, 2, 1),
            act(17, 5, 2, 1), act(14, 6, 7, 2), act(1, 1, 1, 60), act(5, 1, 2, 1), act(5, 1, 2, 1), act(5, 1, 2, 1),
            act(5, 1, 2, 1), act(5, 1, 2, 1), act(7, 2, 5, 1), act(1, 3, 1, 0), act(2, 1, 1, 60), act(6, 1, 2, 1),
            act(6, 1, 2, 1), act(8, 2, 5, 1), act(2, 3, 1, 0), act(52, 1, 1, 3));
        return w;
    }

    /** New THINGS until there are so many; HOLD 7 and NUMBERS 6 and 7 are lost. */
    void fill(int things) {
        while (x.count(0) < things) {
            int sevens = Math.min((things - x.count(0)) / 7, 30);
            int[][] acts = new int[sevens > 0 ? sevens + 2 : things - x.count(0)][];
            for (int i = 0; i < acts.length; i++) {
                acts[i] = sevens > 0 ? act(16, 7, 7, 6) : act(18, 7, 0, 0);
            }
            if (sevens > 0) {
                acts[0] = act(0, 7, 6, 0);
                acts[1] = act(0, 6, 0, 0);
            }
            run(acts);
        }
    }
}
