import java.util.ArrayList;
import java.util.Arrays;
import java.util.List;

/**
 * The document's face once more, written so that the Java machine itself does the ACTS: true arrays,
 * true classes and fields that hide one another, and the exceptions that the machine throws.
 * It takes ACTS as they come: the test asks it only for those that the class has taken.
 */
final class Oracle {
    private interface Weighs {
        long weigh(long v);

        double measure();

        int tally();
    }

    private interface Blooms {
        void begun(int body);

        default long bloom(long v) {
            begun(12);
            return 3 * v + petals();
        }

        default int petals() {
            begun(13);
            return 5;
        }
    }

    private interface Hard {
        double hardness();
    }

    private class Node implements Weighs {
        long n;
        double x;
        float f;
        Node next;
        int[] line;
        int tally;
        int mark;

        public void begun(int body) {
            trace = 31 * trace + body;
        }

        @Override
        public long weigh(long v) {
            begun(1);
            return n + v;
        }

        @Override
        public double measure() {
            begun(5);
            return x;
        }

        @Override
        public int tally() {
            begun(9);
            return ++tally;
        }
    }

    private class Leaf extends Node {
        int mark;

        @Override
        public long weigh(long v) {
            begun(2);
            return 2 * super.weigh(v) + mark;
        }

        @Override
        public double measure() {
            begun(6);
            return x + super.measure();
        }

        @Override
        public int tally() {
            begun(10);
            super.tally();
            return super.tally();
        }
    }

    private class Bud extends Leaf implements Blooms {
        @Override
        public double measure() {
            begun(7);
            return 2.0 * super.measure();
        }
    }

    private class Twig extends Bud {
        int mark;

        @Override
        public long weigh(long v) {
            begun(3);
            return super.weigh(v) - mark;
        }

        @Override
        public int tally() {
            begun(11);
            return super.tally() + ((Node) this).mark;
        }

        @Override
        public int petals() {
            begun(14);
            return 7 + ((Leaf) this).mark;
        }
    }

    private class Stone extends Node implements Hard {
        @Override
        public long weigh(long v) {
            begun(4);
            return 0 - super.weigh(v);
        }

        @Override
        public double measure() {
            begun(8);
            return x % 4.0;
        }

        @Override
        public double hardness() {
            begun(15);
            return Math.abs(f) * 2.0;
        }
    }

    private static final class Thread {
        final long[] n = new long[8];
        final double[] x = new double[4];
        final float[] f = new float[4];
        final Object[] t = new Object[8];
        final List<int[]> frames = new ArrayList<>();
        final int[] told = {0, 0, 0, -1, -1};
        Object waitsFor;
    }

    /** A FAILURE that no exception of the machine tells. */
    private static final class Fails extends RuntimeException {
        private static final long serialVersionUID = 1;
        final int failure;

        Fails(int failure) {
            super(null, null, false, false);
            this.failure = failure;
        }
    }

    private static final int WAITS = -1;

    private int trace;
    private final List<Object> things = new ArrayList<>();
    private final List<Integer> owners = new ArrayList<>();
    private final List<Integer> locks = new ArrayList<>();
    private final List<List<int[]>> acts = new ArrayList<>();
    private final List<List<int[]>> handlers = new ArrayList<>();
    private final Thread[] threads = new Thread[3];

    Oracle() {
        clear();
    }

    /** As Gift does with the class. */
    void lay(int thread, int k, int t) {
        threads[thread].t[k] = things.get(t);
    }

    int act(int program, int op, int a, int b, int c) {
        acts.get(program).add(new int[] {op, a, b, c});
        return acts.get(program).size() - 1;
    }

    int handler(int program, int from, int to, int failure, int place) {
        handlers.get(program).add(new int[] {from, to, failure, place});
        return handlers.get(program).size();
    }

    int empty(int program) {
        if (count(7) > 0) {
            return -2;
        }
        int had = acts.get(program).size();
        acts.get(program).clear();
        handlers.get(program).clear();
        return had;
    }

    int start(int thread, int program) {
        if (!threads[thread].frames.isEmpty()) {
            return -2;
        }
        threads[thread].frames.add(new int[] {program, 0});
        return 1;
    }

    int turn(int thread, int n) {
        Thread th = threads[thread];
        if (th.frames.isEmpty()) {
            return -2;
        }
        th.waitsFor = null;
        int used = 0;
        int failed = 0;
        while (true) {
            endFinished(th);
            if (th.frames.isEmpty()) {
                letGoAll(thread);
                return 0;
            }
            if (used == n) {
                return 1;
            }
            int[] frame = top(th);
            int[] act = acts.get(frame[0]).get(frame[1]);
            int result = tryAct(thread, act);
            if (result == WAITS) {
                return 2;
            }
            used++;
            if (result == 0) {
                th.told[0]++;
                continue;
            }
            failed++;
            th.told[1]++;
            th.told[2] = failed == 21 ? 11 : result;
            th.told[3] = frame[0];
            th.told[4] = frame[1];
            if (failed == 21 || !handle(th, result)) {
                th.frames.clear();
                letGoAll(thread);
                return failed == 21 ? -21 : -10 - result;
            }
        }
    }

    long number(int thread, int k) {
        return threads[thread].n[k];
    }

    long real(int thread, int k) {
        return Double.doubleToRawLongBits(threads[thread].x[k]);
    }

    long small(int thread, int k) {
        return Float.floatToRawIntBits(threads[thread].f[k]);
    }

    int hold(int thread, int k) {
        return indexOf(threads[thread].t[k]);
    }

    int told(int thread, int what) {
        Thread th = threads[thread];
        switch (what) {
            case 5:
                return th.frames.size();
            case 6:
                return indexOf(th.waitsFor);
            case 7:
                return th.frames.isEmpty() ? 0 : 1;
            default:
                return th.told[what];
        }
    }

    int thing(int t, int what) {
        if (t >= things.size()) {
            return -2;
        }
        Object o = things.get(t);
        switch (what) {
            case 0:
                return sortOf(o);
            case 1:
                return o.getClass().isArray() ? java.lang.reflect.Array.getLength(o) : 0;
            case 2:
                return owners.get(t);
            default:
                return locks.get(t);
        }
    }

    long item(int t, int i) {
        if (t >= things.size() || !things.get(t).getClass().isArray()) {
            return Long.MIN_VALUE;
        }
        Object o = things.get(t);
        if (i >= java.lang.reflect.Array.getLength(o)) {
            return Long.MIN_VALUE;
        }
        if (o instanceof boolean[] r) {
            return r[i] ? 1 : 0;
        }
        if (o instanceof char[] r) {
            return r[i];
        }
        if (o instanceof float[] r) {
            return Float.floatToRawIntBits(r[i]);
        }
        if (o instanceof double[] r) {
            return Double.doubleToRawLongBits(r[i]);
        }
        if (o instanceof Object[] r) {
            return indexOf(r[i]);
        }
        return java.lang.reflect.Array.getLong(o, i);
    }

    long field(int t, int b) {
        if (t >= things.size() || !(things.get(t) instanceof Node o)) {
            return Long.MIN_VALUE;
        }
        switch (b) {
            case 0:
                return o.n;
            case 1:
                return Double.doubleToRawLongBits(o.x);
            case 2:
                return Float.floatToRawIntBits(o.f);
            case 3:
                return indexOf(o.next);
            case 4:
                return indexOf(o.line);
            case 5:
                return o.tally;
            case 6:
                return o.mark;
            case 7:
                return o instanceof Leaf l ? l.mark : Long.MIN_VALUE;
            default:
                return o instanceof Twig w ? w.mark : Long.MIN_VALUE;
        }
    }

    int ring(int thread) {
        boolean[] seen = new boolean[3];
        int at = thread;
        while (threads[at].waitsFor != null) {
            at = owners.get(indexOf(threads[at].waitsFor));
            if (at == thread) {
                return 1;
            }
            if (at < 0 || seen[at]) {
                return 0;
            }
            seen[at] = true;
        }
        return 0;
    }

    int trace() {
        return trace;
    }

    int count(int what) {
        if (what == 0) {
            return things.size();
        }
        if (what < 7) {
            return acts.get(what - 1).size();
        }
        int many = 0;
        for (Thread th : threads) {
            many += th.frames.isEmpty() ? 0 : 1;
        }
        return many;
    }

    int clear() {
        int had = things.size();
        things.clear();
        owners.clear();
        locks.clear();
        acts.clear();
        handlers.clear();
        for (int i = 0; i < 6; i++) {
            acts.add(new ArrayList<>());
            handlers.add(new ArrayList<>());
        }
        for (int i = 0; i < 3; i++) {
            threads[i] = new Thread();
        }
        trace = 0;
        return had;
    }

    private static int[] top(Thread th) {
        return th.frames.get(th.frames.size() - 1);
    }

    private void endProgram(Thread th) {
        th.frames.remove(th.frames.size() - 1);
        if (!th.frames.isEmpty()) {
            top(th)[1]++;
        }
    }

    private void endFinished(Thread th) {
        while (!th.frames.isEmpty() && top(th)[1] >= acts.get(top(th)[0]).size()) {
            endProgram(th);
        }
    }

    private boolean handle(Thread th, int failure) {
        while (!th.frames.isEmpty()) {
            int[] frame = top(th);
            for (int[] h : handlers.get(frame[0])) {
                if (frame[1] >= h[0] && frame[1] < h[1] && (h[2] == failure || h[2] == -1)) {
                    th.n[7] = failure;
                    frame[1] = h[3];
                    return true;
                }
            }
            th.frames.remove(th.frames.size() - 1);
        }
        return false;
    }

    private void letGoAll(int thread) {
        for (int i = 0; i < owners.size(); i++) {
            if (owners.get(i) == thread) {
                owners.set(i, -1);
                locks.set(i, 0);
            }
        }
    }

    private int indexOf(Object o) {
        for (int i = 0; i < things.size(); i++) {
            if (things.get(i) == o) {
                return i;
            }
        }
        return -1;
    }

    private static final Class<?>[] ROWS = {boolean[].class, byte[].class, short[].class, char[].class, int[].class,
        long[].class, float[].class, double[].class, Node[].class, Leaf[].class, Bud[].class, Twig[].class,
        Stone[].class, int[][].class, double[][].class, null, Node.class, Leaf.class, Bud.class, Twig.class,
        Stone.class, Weighs.class, Blooms.class, Hard.class, Comparable.class, Cloneable.class};

    private static int sortOf(Object o) {
        return Arrays.asList(ROWS).indexOf(o.getClass());
    }

    private Object made(Object o) {
        things.add(o);
        owners.add(-1);
        locks.add(0);
        return o;
    }

    private void room(long more) {
        if (things.size() + more > 160) {
            throw new Fails(9);
        }
    }

    private static void need(boolean so, int failure) {
        if (!so) {
            throw new Fails(failure);
        }
    }

    private static double number(double v) {
        need(!Double.isNaN(v), 8);
        return v;
    }

    private static int index(long i) {
        return i == (int) i ? (int) i : -1;
    }

    private int tryAct(int thread, int[] act) {
        try {
            return doAct(thread, act[0], act[1], act[2], act[3]);
        } catch (NullPointerException e) {
            return 1;
        } catch (ArrayStoreException e) {
            return 4;
        } catch (IndexOutOfBoundsException e) {
            return 2;
        } catch (ClassCastException e) {
            return 3;
        } catch (NegativeArraySizeException e) {
            return 5;
        } catch (ArithmeticException e) {
            return 6;
        } catch (Fails e) {
            return e.failure;
        }
    }

    private int doAct(int thread, int op, int a, int b, int c) {
        Thread th = threads[thread];
        if (op >= 59 && op <= 64) {
            return doWay(thread, th, op, a, b, c);
        }
        if (op < 12) {
            doFigures(th, op, a, b, c);
        } else if (op < 36) {
            doItems(th, op, a, b, c);
        } else {
            doThings(thread, th, op, a, b, c);
        }
        top(th)[1]++;
        return 0;
    }

    private int doWay(int thread, Thread th, int op, int a, int b, int c) {
        boolean jumps = op == 59;
        if (op == 60) {
            long v = th.n[b];
            jumps = c == 0 ? v == 0 : c == 1 ? v != 0 : c == 2 ? v < 0 : v > 0;
        }
        if (op == 61) {
            jumps = th.t[b] == null;
        }
        if (op == 62) {
            need(th.frames.size() < 8, 9);
            th.frames.add(new int[] {a, 0});
            return 0;
        }
        if (op == 63) {
            endProgram(th);
            return 0;
        }
        if (op == 64) {
            need(th.t[b] != null, 1);
            int i = indexOf(th.t[b]);
            if (owners.get(i) >= 0 && owners.get(i) != thread) {
                th.waitsFor = th.t[b];
                return WAITS;
            }
            owners.set(i, thread);
            locks.set(i, locks.get(i) + 1);
        }
        top(th)[1] = jumps ? a : top(th)[1] + 1;
        return 0;
    }

    private static long longs(int how, long p, long q) {
        switch (how) {
            case 0: return p + q;
            case 1: return p - q;
            case 2: return p * q;
            case 3: return p / q;
            case 4: return p % q;
            case 5: return p << q;
            case 6: return p >> q;
            case 7: return p >>> q;
            case 8: return p & q;
            case 9: return p | q;
            case 10: return p ^ q;
            default: return p < q ? -1 : p == q ? 0 : 1;
        }
    }

    private static int ints(int how, int p, int q) {
        switch (how) {
            case 0: return p + q;
            case 1: return p - q;
            case 2: return p * q;
            case 3: return p / q;
            case 4: return p % q;
            case 5: return p << q;
            case 6: return p >> q;
            case 7: return p >>> q;
            case 8: return p & q;
            case 9: return p | q;
            case 10: return p ^ q;
            default: return p < q ? -1 : p == q ? 0 : 1;
        }
    }

    private static double doubles(int how, double p, double q) {
        switch (how) {
            case 0: return p + q;
            case 1: return p - q;
            case 2: return p * q;
            case 3: return p / q;
            case 4: return p % q;
            case 5: return Math.max(p, q);
            case 6: return Math.min(p, q);
            default: return Math.copySign(p, q);
        }
    }

    private static float floats(int how, float p, float q) {
        switch (how) {
            case 0: return p + q;
            case 1: return p - q;
            case 2: return p * q;
            case 3: return p / q;
            case 4: return p % q;
            case 5: return Math.max(p, q);
            case 6: return Math.min(p, q);
            default: return Math.copySign(p, q);
        }
    }

    private static double fn(int how, double v) {
        switch (how) {
            case 0: return Math.abs(v);
            case 1: return Math.floor(v);
            case 2: return Math.ceil(v);
            case 3: return Math.rint(v);
            case 4: return Math.signum(v);
            default: return -v;
        }
    }

    private static void doFigures(Thread th, int op, int a, int b, int c) {
        switch (op) {
            case 0: th.n[a] = b; break;
            case 1: th.x[a] = b * Math.pow(2, c); break;
            case 2: th.f[a] = (float) (b * Math.pow(2, c)); break;
            case 3: th.n[a] = longs(b, th.n[a], th.n[c]); break;
            case 4: th.n[a] = ints(b, (int) th.n[a], (int) th.n[c]); break;
            case 5: th.x[a] = number(doubles(b, th.x[a], th.x[c])); break;
            case 6: th.f[a] = (float) number(floats(b, th.f[a], th.f[c])); break;
            case 7: th.x[a] = fn(b, th.x[c]); break;
            case 8: th.f[a] = (float) fn(b, th.f[c]); break;
            case 9: th.n[a] = th.x[b] < th.x[c] ? -1 : th.x[b] > th.x[c] ? 1 : 0; break;
            case 10: th.n[a] = th.f[b] < th.f[c] ? -1 : th.f[b] > th.f[c] ? 1 : 0; break;
            default: doCast(th, a, b, c); break;
        }
    }

    private static void doCast(Thread th, int a, int b, int c) {
        switch (b) {
            case 0: th.x[a] = th.n[c]; break;
            case 1: th.n[a] = (long) th.x[c]; break;
            case 2: th.n[a] = (int) th.x[c]; break;
            case 3: th.f[a] = th.n[c]; break;
            case 4: th.n[a] = (long) th.f[c]; break;
            case 5: th.n[a] = (int) th.f[c]; break;
            case 6: th.x[a] = th.f[c]; break;
            case 7: th.f[a] = (float) th.x[c]; break;
            case 8: th.n[a] = (byte) th.n[c]; break;
            case 9: th.n[a] = (short) th.n[c]; break;
            case 10: th.n[a] = (char) th.n[c]; break;
            default: th.n[a] = (int) th.n[c]; break;
        }
    }

    private Object newObject(int c) {
        switch (c) {
            case 0: return new Node();
            case 1: return new Leaf();
            case 2: return new Bud();
            case 3: return new Twig();
            default: return new Stone();
        }
    }

    private Object newRow(int sort, long size) {
        need(size <= 12, 9);
        room(1);
        return made(java.lang.reflect.Array.newInstance(ROWS[sort].getComponentType(), (int) Math.max(size, -1)));
    }

    private void doItems(Thread th, int op, int a, int b, int c) {
        Object t = th.t[b & 7];
        int i = index(th.n[c & 7]);
        switch (op) {
            case 12: th.t[a] = th.t[c]; break;
            case 13: th.t[a] = null; break;
            case 14: th.t[a] = newRow(b, th.n[c]); break;
            case 15: th.t[a] = newRow(8 + b, th.n[c]); break;
            case 16: case 17: newRows(th, op, a, th.n[b], th.n[c]); break;
            case 18: room(1); th.t[a] = made(newObject(b)); break;
            case 20: th.n[a] = ((boolean[]) t)[i] ? 1 : 0; break;
            case 21: th.n[a] = ((byte[]) t)[i]; break;
            case 22: th.n[a] = ((short[]) t)[i]; break;
            case 23: th.n[a] = ((char[]) t)[i]; break;
            case 24: th.n[a] = ((int[]) t)[i]; break;
            case 25: th.n[a] = ((long[]) t)[i]; break;
            case 26: th.f[a] = ((float[]) t)[i]; break;
            case 27: th.x[a] = ((double[]) t)[i]; break;
            case 28: ((boolean[]) t)[i] = th.n[a] != 0; break;
            case 29: ((byte[]) t)[i] = (byte) th.n[a]; break;
            case 30: ((short[]) t)[i] = (short) th.n[a]; break;
            case 31: ((char[]) t)[i] = (char) th.n[a]; break;
            case 32: ((int[]) t)[i] = (int) th.n[a]; break;
            case 33: ((long[]) t)[i] = th.n[a]; break;
            case 34: ((float[]) t)[i] = th.f[a]; break;
            default: ((double[]) t)[i] = th.x[a]; break;
        }
    }

    private void newRows(Thread th, int op, int a, long rows, long size) {
        need(rows <= 6 && size <= 12, 9);
        room(1 + Math.max(0, rows));
        Class<?> of = op == 16 ? int.class : double.class;
        int outer = (int) Math.max(rows, -1);
        int inner = (int) Math.max(size, -1);
        Object[] row = (Object[]) java.lang.reflect.Array.newInstance(of, outer, inner);
        th.t[a] = made(row);
        for (Object r : row) {
            made(r);
        }
    }

    private void doThings(int thread, Thread th, int op, int a, int b, int c) {
        Object t = th.t[b & 7];
        int i = index(th.n[c & 7]);
        switch (op) {
            case 36: th.t[a] = ((Node[]) t)[i]; break;
            case 37: th.t[a] = ((int[][]) t)[i]; break;
            case 38: th.t[a] = ((double[][]) t)[i]; break;
            case 39: ((Node[]) t)[i] = (Node) th.t[a]; break;
            case 40: ((int[][]) t)[i] = (int[]) th.t[a]; break;
            case 41: ((double[][]) t)[i] = (double[]) th.t[a]; break;
            case 42: need(t == null || t.getClass().isArray(), 10); th.n[a] = lengthOf(t); break;
            case 43: case 44: case 45: doAnyItem(th, op, a, t, i); break;
            case 46: doMove(th, th.t[a], t); break;
            case 47: doCopy(th, a, t); break;
            case 48: th.n[a] = ROWS[c].isInstance(t) ? 1 : 0; break;
            case 49: th.t[a] = ROWS[c].cast(t); break;
            case 50: th.n[a] = t == th.t[c] ? 1 : 0; break;
            case 51: doRead(th, a, b, th.t[c]); break;
            case 52: doWrite(th, a, b, th.t[c]); break;
            case 53: th.n[a] = ((Weighs) t).weigh(th.n[c]); break;
            case 54: th.x[a] = number(((Weighs) t).measure()); break;
            case 55: th.n[a] = ((Weighs) t).tally(); break;
            case 56: th.n[a] = ((Blooms) t).bloom(th.n[c]); break;
            case 57: th.x[a] = ((Hard) t).hardness(); break;
            case 58: throw new Fails(b == -1 ? 1 : b);
            default: doLetGo(thread, t); break;
        }
    }

    private static int lengthOf(Object t) {
        if (t == null) {
            throw new NullPointerException();
        }
        return java.lang.reflect.Array.getLength(t);
    }

    private static void doAnyItem(Thread th, int op, int a, Object t, int i) {
        need(t != null, 1);
        int sort = sortOf(t);
        if (op == 43) {
            need(sort >= 1 && sort <= 5, 10);
            th.n[a] = java.lang.reflect.Array.getLong(t, i);
        } else if (op == 44) {
            need(sort >= 1 && sort <= 7, 10);
            th.x[a] = java.lang.reflect.Array.getDouble(t, i);
        } else {
            need(sort >= 4 && sort <= 7, 10);
            java.lang.reflect.Array.setInt(t, i, (int) th.n[a]);
        }
    }

    private static void doMove(Thread th, Object from, Object to) {
        need(from != null && to != null, 1);
        need(sortOf(from) == sortOf(to) && sortOf(to) < 8, 4);
        System.arraycopy(from, index(th.n[5]), to, index(th.n[6]), index(th.n[7]));
    }

    private void doCopy(Thread th, int a, Object t) {
        need(t != null, 1);
        need(t.getClass().isArray(), 3);
        room(1);
        int n = java.lang.reflect.Array.getLength(t);
        Object copy = java.lang.reflect.Array.newInstance(t.getClass().getComponentType(), n);
        System.arraycopy(t, 0, copy, 0, n);
        th.t[a] = made(copy);
    }

    private static void doRead(Thread th, int a, int b, Object t) {
        switch (b) {
            case 0: th.n[a] = ((Node) t).n; break;
            case 1: th.x[a] = ((Node) t).x; break;
            case 2: th.f[a] = ((Node) t).f; break;
            case 3: th.t[a] = ((Node) t).next; break;
            case 4: th.t[a] = ((Node) t).line; break;
            case 5: th.n[a] = ((Node) t).tally; break;
            case 6: th.n[a] = ((Node) t).mark; break;
            case 7: th.n[a] = ((Leaf) t).mark; break;
            default: th.n[a] = ((Twig) t).mark; break;
        }
    }

    private static void doWrite(Thread th, int a, int b, Object t) {
        switch (b) {
            case 0: ((Node) t).n = th.n[a]; break;
            case 1: ((Node) t).x = th.x[a]; break;
            case 2: ((Node) t).f = th.f[a]; break;
            case 3: ((Node) t).next = (Node) th.t[a]; break;
            case 4: ((Node) t).line = (int[]) th.t[a]; break;
            case 6: ((Node) t).mark = (int) th.n[a]; break;
            case 7: ((Leaf) t).mark = (int) th.n[a]; break;
            default: ((Twig) t).mark = (int) th.n[a]; break;
        }
    }

    private void doLetGo(int thread, Object t) {
        need(t != null, 1);
        int i = indexOf(t);
        need(owners.get(i) == thread, 7);
        locks.set(i, locks.get(i) - 1);
        if (locks.get(i) == 0) {
            owners.set(i, -1);
        }
    }
}
