import java.util.Arrays;

/**
 * A witness of what a machine does with rows and things of all kinds: programs of small acts,
 * what the machine has against an act, handlers, calls, methods that ask on upwards, threads by
 * turns, locks. The document's promises are numbered; its ops bear their numbers here, too.
 */
public final class MachineWitness {
    public static final int NONE = -1, BAD = -1, STATE = -2, FULL = -3;
    public static final long LOST = Long.MIN_VALUE;

    /** BAD of those calls for which -1 is an answer. */
    private static final int NO_SUCH = -2;

    private static final int THREADS = 3, PROGRAMS = 6, MOST_ACTS = 40, MOST_HANDLERS = 6;
    private static final int MOST_UNDER_WAY = 8, MOST_TURNS = 500, MOST_FAILURES = 20;
    private static final int MOST_THINGS = 160, MOST_ITEMS = 12, MOST_INNER_ROWS = 6;
    private static final int NUMBERS = 8, DOUBLES = 4, FLOATS = 4, HOLDS = 8;

    /** The NUMBER in which a HANDLER finds its FAILURE. */
    private static final int CAUGHT = 7;

    /** An ACT and a HANDLER are four numbers each. */
    private static final int WIDTH = 4;

    private static final int NULL = 1, INDEX = 2, CAST = 3, STORE = 4, SIZE = 5, ZERO = 6;
    private static final int OWNER = 7, ENDLESS = 8, ROOM = 9, KIND = 10, SPENT = 11;
    private static final int FIRST_RAISED = 20, LAST_RAISED = 29;

    /** What came of an ACT, beside the FAILURES: MOVED is done, and it told where to go on. */
    private static final int DONE = 0, MOVED = -1, WAITS = -2;

    private static final int GOES_ON = 1, ENDED = 0, WAITING = 2, ENDED_BY = -10;

    private static final int TRUTH = 0, BYTE = 1, SHORT = 2, CHAR = 3, INT = 4, LONG = 5;
    private static final int FLOAT = 6, DOUBLE = 7, CLASS_ROW = 8, INT_ROWS = 13, DOUBLE_ROWS = 14;
    private static final int OBJECT = 16, WEIGHS = 21, BLOOMS = 22, HARD = 23;
    private static final int COMPARABLE = 24, CLONEABLE = 25, LAST_KIND = 25, NO_KIND = 15;

    private static final int NODE = 0, LEAF = 1, BUD = 2, TWIG = 3, STONE = 4;

    private static final int N_FIELD = 0, X_FIELD = 1, F_FIELD = 2, NEXT = 3, LINE = 4, TALLY = 5;
    private static final int NODE_MARK = 6, LEAF_MARK = 7, TWIG_MARK = 8;

    private final Program[] programs = new Program[PROGRAMS];
    private final Strand[] strands = new Strand[THREADS];
    private final Things things = new Things();
    private final Reals reals = new Reals();
    private final Bodies bodies = new Bodies(things, reals);
    private final Machine machine = new Machine(programs, things, reals, bodies);

    public MachineWitness() {
        for (int i = 0; i < PROGRAMS; i++) {
            programs[i] = new Program();
        }
        for (int i = 0; i < THREADS; i++) {
            strands[i] = new Strand(i);
        }
    }

    public int act(int program, int op, int a, int b, int c) {
        if (!isBelow(program, PROGRAMS) || !Shapes.fits(op, a, b, c)) {
            return BAD;
        }
        return programs[program].withAct(op, a, b, c);
    }

    public int handler(int program, int from, int to, int failure, int place) {
        boolean span = 0 <= from && from < to && to <= MOST_ACTS;
        if (!isBelow(program, PROGRAMS) || !span || !isHandled(failure) || !isBelow(place, MOST_ACTS)) {
            return BAD;
        }
        return programs[program].withHandler(from, to, failure, place);
    }

    public int empty(int program) {
        if (!isBelow(program, PROGRAMS)) {
            return BAD;
        }
        return threadsUnderWay() > 0 ? STATE : programs[program].emptied();
    }

    public int start(int thread, int program) {
        if (!isBelow(thread, THREADS) || !isBelow(program, PROGRAMS)) {
            return BAD;
        }
        if (strands[thread].isUnderWay()) {
            return STATE;
        }
        strands[thread].begin(program);
        return 1;
    }

    public int turn(int thread, int n) {
        if (!isBelow(thread, THREADS) || n < 1 || n > MOST_TURNS) {
            return BAD;
        }
        Strand s = strands[thread];
        if (!s.isUnderWay()) {
            return STATE;
        }
        int failed = 0;
        int endedBy = DONE;
        s.waitsFor = NONE;
        machine.endFinished(s);
        for (int used = 0; used < n && s.isUnderWay(); used++) {
            int outcome = machine.outcomeOfAct(s);
            if (outcome == WAITS) {
                return WAITING;
            }
            if (outcome > DONE) {
                failed++;
                endedBy = machine.fail(s, failed > MOST_FAILURES ? SPENT : outcome);
            } else {
                s.noteDone(outcome);
            }
            machine.endFinished(s);
        }
        if (s.isUnderWay()) {
            return GOES_ON;
        }
        things.letGoAllOf(thread);
        return endedBy == DONE ? ENDED : ENDED_BY - endedBy;
    }

    public long number(int thread, int k) {
        return isBelow(thread, THREADS) && isBelow(k, NUMBERS) ? strands[thread].numbers[k] : LOST;
    }

    public long real(int thread, int k) {
        boolean known = isBelow(thread, THREADS) && isBelow(k, DOUBLES);
        return known ? reals.bitsOfDouble(strands[thread].doubles[k]) : LOST;
    }

    public long small(int thread, int k) {
        boolean known = isBelow(thread, THREADS) && isBelow(k, FLOATS);
        return known ? reals.bitsOfFloat(strands[thread].floats[k]) : LOST;
    }

    public int hold(int thread, int k) {
        return isBelow(thread, THREADS) && isBelow(k, HOLDS) ? strands[thread].holds[k] : NO_SUCH;
    }

    public int told(int thread, int what) {
        return isBelow(thread, THREADS) ? strands[thread].saying(what) : NO_SUCH;
    }

    public int thing(int t, int what) {
        return isBelow(t, things.many) ? things.saying(t, what) : NO_SUCH;
    }

    public long item(int t, int i) {
        if (!isBelow(t, things.many) || !things.isRow(t) || !isBelow(i, things.sizes[t])) {
            return LOST;
        }
        return shown(things.sorts[t], Things.slot(t, i));
    }

    public long field(int t, int b) {
        if (!isBelow(t, things.many) || things.isRow(t) || !isBelow(b, TWIG_MARK + 1)) {
            return LOST;
        }
        if (!things.isOf(t, Members.bearerOf(b))) {
            return LOST;
        }
        int sort = b == X_FIELD ? DOUBLE : b == F_FIELD ? FLOAT : LONG;
        return shown(sort, Things.slot(t, b));
    }

    public int ring(int thread) {
        if (!isBelow(thread, THREADS)) {
            return BAD;
        }
        int at = thread;
        // Counted, as a ring of the other two would never come back here.
        for (int i = 0; i < THREADS; i++) {
            int awaited = strands[at].waitsFor;
            at = awaited == NONE ? NONE : things.owners[awaited];
            if (at == NONE) {
                return 0;
            }
            if (at == thread) {
                return 1;
            }
        }
        return 0;
    }

    public int trace() {
        return bodies.traced;
    }

    public int count(int what) {
        if (what == 0) {
            return things.many;
        }
        if (what == PROGRAMS + 1) {
            return threadsUnderWay();
        }
        return isBelow(what - 1, PROGRAMS) ? programs[what - 1].acts : BAD;
    }

    public int clear() {
        int had = things.many;
        for (int i = 0; i < PROGRAMS; i++) {
            programs[i].emptied();
        }
        for (int i = 0; i < THREADS; i++) {
            strands[i].reset();
        }
        things.many = 0;
        bodies.traced = 0;
        return had;
    }

    private long shown(int sort, int slot) {
        if (sort == DOUBLE) {
            return reals.bitsOfDouble(things.reals[slot]);
        }
        return sort == FLOAT ? reals.bitsOfFloat((float) things.reals[slot]) : things.numbers[slot];
    }

    private int threadsUnderWay() {
        int many = 0;
        for (int i = 0; i < THREADS; i++) {
            many += strands[i].isUnderWay() ? 1 : 0;
        }
        return many;
    }

    private static boolean isBelow(int k, int limit) {
        return k >= 0 && k < limit;
    }

    private static boolean isRaised(int failure) {
        return failure >= FIRST_RAISED && failure <= LAST_RAISED;
    }

    private static boolean isHandled(int failure) {
        return failure == -1 || failure >= NULL && failure <= KIND || isRaised(failure);
    }

    /** Which numbers an ACT may have. */
    private static final class Shapes {
        /** From 0 up to these; below 0 stand the ones that are not told so. */
        private static final int N = 7, X = 3, F = 3, T = 7, PLACE = 39, PROGRAM = 5, CLASS = 4, SORT = 7;
        private static final int ANY = -1, POWER = -2, OF_KIND = -3, RAISES = -4, NEVER = -5, BY_B = -6;
        private static final int OPS = 66, NUMBERS_OF_ONE = 3, CASTS = 11, FIELDS_OF = 51, FIELDS_TO = 52;

        private static final int[] NUMBERS_OF = {
            N, ANY, ANY, X, ANY, POWER, F, ANY, POWER, // 0 to 2
            N, 11, N, N, 11, N, X, 7, X, F, 7, F, // 3 to 6
            X, 5, X, F, 5, F, N, X, X, N, F, F, // 7 to 10
            BY_B, 11, BY_B, T, ANY, T, T, ANY, ANY, // 11 to 13
            T, SORT, N, T, CLASS, N, T, N, N, T, N, N, // 14 to 17
            T, CLASS, ANY, NEVER, NEVER, NEVER, // 18, 19
            N, T, N, N, T, N, N, T, N, N, T, N, N, T, N, N, T, N, F, T, N, X, T, N, // 20 to 27
            N, T, N, N, T, N, N, T, N, N, T, N, N, T, N, N, T, N, F, T, N, X, T, N, // 28 to 35
            T, T, N, T, T, N, T, T, N, T, T, N, T, T, N, T, T, N, // 36 to 41
            N, T, ANY, N, T, N, X, T, N, N, T, N, // 42 to 45
            T, T, ANY, T, T, ANY, N, T, OF_KIND, T, T, OF_KIND, N, T, T, // 46 to 50
            BY_B, 8, T, BY_B, 8, T, // 51, 52
            N, T, N, X, T, ANY, N, T, ANY, N, T, N, X, T, ANY, // 53 to 57
            ANY, RAISES, ANY, PLACE, ANY, ANY, PLACE, N, 3, PLACE, T, ANY, // 58 to 61
            PROGRAM, ANY, ANY, ANY, ANY, ANY, ANY, T, ANY, ANY, T, ANY, // 62 to 65
        };
        /** a, then c of 11, and a of 51 and 52, by b. */
        private static final int[] CAST_TO = {X, N, N, F, N, N, X, F, N, N, N, N};
        private static final int[] CAST_FROM = {N, X, X, N, F, F, F, X, N, N, N, N};
        private static final int[] FIELD_REGISTER = {N, X, F, T, T, N, N, N, N};

        static boolean fits(int op, int a, int b, int c) {
            if (!isBelow(op, OPS)) {
                return false;
            }
            int at = op * NUMBERS_OF_ONE;
            if (!isAs(NUMBERS_OF[at + 1], b)) {
                return false;
            }
            if (op == CASTS) {
                return isAs(CAST_TO[b], a) && isAs(CAST_FROM[b], c);
            }
            if (op == FIELDS_TO && b == TALLY) {
                return false;
            }
            int first = op == FIELDS_OF || op == FIELDS_TO ? FIELD_REGISTER[b] : NUMBERS_OF[at];
            return isAs(first, a) && isAs(NUMBERS_OF[at + 2], c);
        }

        private static boolean isAs(int shape, int k) {
            switch (shape) {
                case ANY:
                    return true;
                case POWER:
                    return k >= -60 && k <= 60;
                case OF_KIND:
                    return k >= 0 && k <= LAST_KIND && k != NO_KIND;
                case RAISES:
                    return k == -1 || isRaised(k);
                default:
                    return k >= 0 && k <= shape;
            }
        }
    }

    /** The ACTS and HANDLERS of a PROGRAM. */
    private static final class Program {
        final int[] actRow = new int[MOST_ACTS * WIDTH];
        private final int[] handlerRow = new int[MOST_HANDLERS * WIDTH];
        int acts;
        private int handlers;

        int withAct(int op, int a, int b, int c) {
            if (acts >= MOST_ACTS) {
                return FULL;
            }
            writeFour(actRow, acts * WIDTH, op, a, b, c);
            acts++;
            return acts - 1;
        }

        int withHandler(int from, int to, int failure, int place) {
            if (handlers >= MOST_HANDLERS) {
                return FULL;
            }
            writeFour(handlerRow, handlers * WIDTH, from, to, failure, place);
            handlers++;
            return handlers;
        }

        int emptied() {
            int had = acts;
            acts = 0;
            handlers = 0;
            return had;
        }

        /** Where it goes on after a FAILURE at a PLACE; NONE if no HANDLER fits. */
        int takenUpAt(int place, int failure) {
            for (int i = 0; i < handlers; i++) {
                int at = i * WIDTH;
                boolean here = handlerRow[at] <= place && place < handlerRow[at + 1];
                int taken = handlerRow[at + 2];
                if (here && (taken == -1 || taken == failure)) {
                    return handlerRow[at + 3];
                }
            }
            return NONE;
        }

        private static void writeFour(int[] row, int at, int p, int q, int r, int s) {
            row[at] = p;
            row[at + 1] = q;
            row[at + 2] = r;
            row[at + 3] = s;
        }
    }

    /** A THREAD: its registers, the PROGRAMS that it has under way, what is told of it. */
    private static final class Strand {
        final int which;
        final long[] numbers = new long[NUMBERS];
        final double[] doubles = new double[DOUBLES];
        final float[] floats = new float[FLOATS];
        final int[] holds = new int[HOLDS];
        private final int[] called = new int[MOST_UNDER_WAY];
        private final int[] places = new int[MOST_UNDER_WAY];
        int depth;
        int waitsFor;
        private int done;
        private int failures;
        private int latest;
        private int latestProgram;
        private int latestPlace;

        Strand(int which) {
            this.which = which;
            reset();
        }

        void reset() {
            Arrays.fill(numbers, 0);
            Arrays.fill(doubles, 0);
            Arrays.fill(floats, 0);
            Arrays.fill(holds, NONE);
            depth = 0;
            done = 0;
            waitsFor = NONE;
            failures = 0;
            latest = 0;
            latestProgram = NONE;
            latestPlace = NONE;
        }

        boolean isUnderWay() {
            return depth > 0;
        }

        void begin(int program) {
            if (depth < MOST_UNDER_WAY) {
                called[depth] = program;
                places[depth] = 0;
                depth++;
            }
        }

        int program() {
            return depth > 0 ? called[depth - 1] : NONE;
        }

        int place() {
            return depth > 0 ? places[depth - 1] : NONE;
        }

        void goOnAt(int place) {
            if (depth > 0) {
                places[depth - 1] = place;
            }
        }

        /** Until now the PROGRAM below stood at its CALL, so that a FAILURE finds that place. */
        void endProgram() {
            if (depth > 0) {
                depth--;
                goOnAt(place() + 1);
            }
        }

        /** outcome is DONE or MOVED. */
        void noteDone(int outcome) {
            done++;
            if (outcome == DONE) {
                goOnAt(place() + 1);
            }
        }

        void noteFailure(int failure) {
            failures++;
            latest = failure;
            latestProgram = program();
            latestPlace = place();
        }

        int saying(int what) {
            switch (what) {
                case 0:
                    return done;
                case 1:
                    return failures;
                case 2:
                    return latest;
                case 3:
                    return latestProgram;
                case 4:
                    return latestPlace;
                case 5:
                    return depth;
                case 6:
                    return waitsFor;
                case 7:
                    return isUnderWay() ? 1 : 0;
                default:
                    return NO_SUCH;
            }
        }
    }

    /**
     * All THINGS, each with twelve slots in two long rows: ITEMS by their index, fields by their
     * number in op 51. Floats and doubles lie in the one row, all others in the other.
     */
    private static final class Things {
        final int[] sorts = new int[MOST_THINGS];
        final int[] sizes = new int[MOST_THINGS];
        final int[] owners = new int[MOST_THINGS];
        final int[] locks = new int[MOST_THINGS];
        final long[] numbers = new long[MOST_THINGS * MOST_ITEMS];
        final double[] reals = new double[MOST_THINGS * MOST_ITEMS];
        int many;

        static int slot(int t, int i) {
            return t * MOST_ITEMS + i;
        }

        boolean hasRoomFor(long more) {
            return many + more <= MOST_THINGS;
        }

        /** The caller has looked whether there is room, and at the size. */
        int make(int sort, int size) {
            int t = many;
            many++;
            sorts[t] = sort;
            sizes[t] = size;
            owners[t] = NONE;
            locks[t] = 0;
            boolean holdsThings = sort >= CLASS_ROW && sort <= DOUBLE_ROWS;
            Arrays.fill(numbers, slot(t, 0), slot(t, MOST_ITEMS), holdsThings ? NONE : 0);
            Arrays.fill(reals, slot(t, 0), slot(t, MOST_ITEMS), 0);
            if (sort >= OBJECT) {
                numbers[slot(t, NEXT)] = NONE;
                numbers[slot(t, LINE)] = NONE;
            }
            return t;
        }

        boolean isRow(int t) {
            return sorts[t] < OBJECT;
        }

        /** Of OBJECTS and of ROWS of a CLASS alone. */
        int classOf(int t) {
            return sorts[t] < OBJECT ? sorts[t] - CLASS_ROW : sorts[t] - OBJECT;
        }

        boolean isOf(int t, int kind) {
            int sort = sorts[t];
            switch (kind) {
                case WEIGHS:
                    return sort >= OBJECT;
                case BLOOMS:
                    return sort >= OBJECT && isUnder(sort - OBJECT, BUD);
                case HARD:
                    return sort >= OBJECT && isUnder(sort - OBJECT, STONE);
                case COMPARABLE:
                    return false;
                case CLONEABLE:
                    return sort < OBJECT;
                default:
                    break;
            }
            if (kind >= OBJECT) {
                return sort >= OBJECT && isUnder(sort - OBJECT, kind - OBJECT);
            }
            boolean ofClasses = kind >= CLASS_ROW && kind < INT_ROWS && sort >= CLASS_ROW && sort < INT_ROWS;
            return ofClasses ? isUnder(sort - CLASS_ROW, kind - CLASS_ROW) : sort == kind;
        }

        boolean mayBeTakenAs(int t, int kind) {
            return t == NONE || isOf(t, kind);
        }

        boolean hasItem(int t, long i) {
            return i >= 0 && i < sizes[t];
        }

        void copyItems(int from, int fromItem, int to, int toItem, int n) {
            System.arraycopy(numbers, slot(from, fromItem), numbers, slot(to, toItem), n);
            System.arraycopy(reals, slot(from, fromItem), reals, slot(to, toItem), n);
        }

        void letGoAllOf(int thread) {
            for (int t = 0; t < many; t++) {
                if (owners[t] == thread) {
                    owners[t] = NONE;
                    locks[t] = 0;
                }
            }
        }

        int saying(int t, int what) {
            switch (what) {
                case 0:
                    return sorts[t];
                case 1:
                    return sizes[t];
                case 2:
                    return owners[t];
                case 3:
                    return locks[t];
                default:
                    return NO_SUCH;
            }
        }

        /** NODE, LEAF, BUD and TWIG stand in one line, STONE beside it. */
        private static boolean isUnder(int c, int above) {
            return above == NODE || above == c || c != STONE && above < c;
        }
    }

    /** What doubles and floats can do by + - * /, comparisons and casts alone. */
    private static final class Reals {
        private static final int SMALLEST_DOUBLE = -1022, DOUBLE_BITS = 52;
        private static final int SMALLEST_FLOAT = -126, FLOAT_BITS = 23;
        private static final long ENDLESS_DOUBLE = 0x7ff0000000000000L;
        private static final int ENDLESS_FLOAT = 0x7f800000;
        /** A whole number of 53 bits can go up by so many and still be a long. */
        private static final int SPARE_BITS = 10;
        /** 512 twice, for the doubles near 0 reach down to 2 to the -1074. */
        private static final int[] STEPS = {512, 512, 256, 128, 64, 32, 16, 8, 4, 2, 1};

        private final double[] powers = {
            0x1p512, 0x1p512, 0x1p256, 0x1p128, 0x1p64, 0x1p32, 0x1p16, 0x1p8, 0x1p4, 0x1p2, 0x1p1};

        /** v times 2 to the e, exact wherever the answer is a double. */
        double scaled(double v, int e) {
            double answer = v;
            int left = e;
            for (int i = 0; i < STEPS.length; i++) {
                if (left >= STEPS[i]) {
                    answer = answer * powers[i];
                    left -= STEPS[i];
                } else if (left <= -STEPS[i]) {
                    answer = answer / powers[i];
                    left += STEPS[i];
                }
            }
            return answer;
        }

        /** The e for which v is at least 2 to the e and below twice that; v is above 0 and not endless. */
        private int exponentOf(double v) {
            double rest = v;
            int e = 0;
            for (int i = 0; i < STEPS.length; i++) {
                if (rest >= powers[i]) {
                    rest = rest / powers[i];
                    e += STEPS[i];
                } else if (rest < 2.0 / powers[i]) {
                    rest = rest * powers[i];
                    e -= STEPS[i];
                }
            }
            return e;
        }

        long bitsOfDouble(double v) {
            long sign = isNegative(v) ? Long.MIN_VALUE : 0;
            double size = unsigned(v);
            if (size == 0.0) {
                return sign;
            }
            if (isEndless(size)) {
                return sign | ENDLESS_DOUBLE;
            }
            int e = Math.max(exponentOf(size), SMALLEST_DOUBLE);
            long digits = (long) scaled(size, DOUBLE_BITS - e);
            // The leading digit, where there is one, carries into the exponent.
            return sign | ((long) (e - SMALLEST_DOUBLE) << DOUBLE_BITS) + digits;
        }

        int bitsOfFloat(float v) {
            int sign = isNegative(v) ? Integer.MIN_VALUE : 0;
            double size = unsigned(v);
            if (size == 0.0) {
                return sign;
            }
            if (isEndless(size)) {
                return sign | ENDLESS_FLOAT;
            }
            int e = Math.max(exponentOf(size), SMALLEST_FLOAT);
            int digits = (int) scaled(size, FLOAT_BITS - e);
            return sign | (e - SMALLEST_FLOAT << FLOAT_BITS) + digits;
        }

        /** Java's a % c: long division on the digits, so that no step rounds. */
        double remainder(double a, double c) {
            double dividend = unsigned(a);
            double divisor = unsigned(c);
            if (dividend < divisor || divisor == 0.0) {
                return a;
            }
            int unit = Math.max(exponentOf(divisor), SMALLEST_DOUBLE) - DOUBLE_BITS;
            int upper = Math.max(exponentOf(dividend), SMALLEST_DOUBLE) - DOUBLE_BITS;
            long by = Math.max((long) scaled(divisor, -unit), 1);
            long rest = (long) scaled(dividend, -upper) % by;
            for (int left = upper - unit; left > 0; left -= SPARE_BITS) {
                rest = (rest << Math.min(left, SPARE_BITS)) % by;
            }
            double answer = scaled(rest, unit);
            return isNegative(a) ? -1.0 * answer : answer;
        }

        static boolean isNegative(double v) {
            return v < 0.0 || v == 0.0 && 1.0 / v < 0.0;
        }

        static boolean isEndless(double v) {
            return v > 0x1.fffffffffffffp1023 || v < -0x1.fffffffffffffp1023;
        }

        static double unsigned(double v) {
            return v > 0.0 ? v : 0.0 - v;
        }

        /** v with the sign of another. */
        static double signed(double v, double like) {
            return isNegative(v) == isNegative(like) ? v : -1.0 * v;
        }

        static double greater(double a, double c) {
            return a > c || a == c && isNegative(c) ? a : c;
        }

        static double lesser(double a, double c) {
            return a < c || a == c && isNegative(a) ? a : c;
        }

        static double floor(double v) {
            if (unsigned(v) >= 0x1p52) {
                return v;
            }
            double whole = (double) (long) v;
            if (whole == v) {
                return v; // not whole, which would lose the sign of -0.0
            }
            return whole > v ? whole - 1.0 : whole;
        }

        static double nearest(double v) {
            double size = unsigned(v);
            if (size >= 0x1p52) {
                return v;
            }
            // Above 2 to the 52 there are only whole doubles: the sum itself rounds to the even one.
            return signed(size + 0x1p52 - 0x1p52, v);
        }

        static double signOf(double v) {
            return v > 0.0 ? 1.0 : v < 0.0 ? -1.0 : v;
        }
    }

    /** Ops 0 to 11: NUMBERS, DOUBLES, FLOATS. */
    private static final class Figures {
        private static final int PLUS = 0, MINUS = 1, TIMES = 2, OVER = 3, REST = 4;
        private final Reals reals;

        Figures(Reals reals) {
            this.reals = reals;
        }

        int outcome(Strand s, int op, int a, int b, int c) {
            switch (op) {
                case 0:
                    s.numbers[a] = b;
                    return DONE;
                case 1:
                    s.doubles[a] = reals.scaled(b, c);
                    return DONE;
                case 2:
                    s.floats[a] = (float) reals.scaled(b, c);
                    return DONE;
                case 3:
                    return joinLongs(s, a, b, c);
                case 4:
                    return joinInts(s, a, b, c);
                case 5:
                    return joinDoubles(s, a, b, c);
                case 6:
                    return joinFloats(s, a, b, c);
                case 7:
                    s.doubles[a] = changed(b, s.doubles[c]);
                    return DONE;
                case 8:
                    s.floats[a] = (float) changed(b, s.floats[c]);
                    return DONE;
                case 9:
                    s.numbers[a] = order(s.doubles[b], s.doubles[c]);
                    return DONE;
                case 10:
                    s.numbers[a] = order(s.floats[b], s.floats[c]);
                    return DONE;
                default:
                    cast(s, a, b, c);
                    return DONE;
            }
        }

        private static boolean divides(int how) {
            return how == OVER || how == REST;
        }

        private static int joinLongs(Strand s, int a, int b, int c) {
            if (divides(b) && s.numbers[c] == 0) {
                return ZERO;
            }
            s.numbers[a] = ofLongs(b, s.numbers[a], s.numbers[c]);
            return DONE;
        }

        private static long ofLongs(int how, long x, long y) {
            switch (how) {
                case PLUS:
                    return x + y;
                case MINUS:
                    return x - y;
                case TIMES:
                    return x * y;
                case OVER:
                    return x / y;
                case REST:
                    return x % y;
                case 5:
                    return x << y;
                case 6:
                    return x >> y;
                case 7:
                    return x >>> y;
                case 8:
                    return x & y;
                case 9:
                    return x | y;
                case 10:
                    return x ^ y;
                default:
                    return Long.compare(x, y);
            }
        }

        private static int joinInts(Strand s, int a, int b, int c) {
            if (divides(b) && (int) s.numbers[c] == 0) {
                return ZERO;
            }
            s.numbers[a] = ofInts(b, (int) s.numbers[a], (int) s.numbers[c]);
            return DONE;
        }

        /** As longs, cut off, but for the shifts: they look at fewer bits of y, and >>> at fewer of x. */
        private static int ofInts(int how, int x, int y) {
            switch (how) {
                case 5:
                    return x << y;
                case 6:
                    return x >> y;
                case 7:
                    return x >>> y;
                default:
                    return (int) ofLongs(how, x, y);
            }
        }

        private int joinDoubles(Strand s, int a, int b, int c) {
            double x = s.doubles[a];
            double y = s.doubles[c];
            if (isNoNumber(b, x, y)) {
                return ENDLESS;
            }
            s.doubles[a] = ofDoubles(b, x, y);
            return DONE;
        }

        private double ofDoubles(int how, double x, double y) {
            switch (how) {
                case PLUS:
                    return x + y;
                case MINUS:
                    return x - y;
                case TIMES:
                    return x * y;
                case OVER:
                    return x / y;
                case REST:
                    return reals.remainder(x, y);
                case 5:
                    return Reals.greater(x, y);
                case 6:
                    return Reals.lesser(x, y);
                default:
                    return Reals.signed(x, y);
            }
        }

        private int joinFloats(Strand s, int a, int b, int c) {
            float x = s.floats[a];
            float y = s.floats[c];
            if (isNoNumber(b, x, y)) {
                return ENDLESS;
            }
            s.floats[a] = ofFloats(b, x, y);
            return DONE;
        }

        private float ofFloats(int how, float x, float y) {
            switch (how) {
                case PLUS:
                    return x + y;
                case MINUS:
                    return x - y;
                case TIMES:
                    return x * y;
                case OVER:
                    return x / y;
                default:
                    // The others answer what is a float already, so nothing is lost on the way.
                    return (float) ofDoubles(how, x, y);
            }
        }

        private static boolean isNoNumber(int how, double x, double y) {
            boolean bothEndless = Reals.isEndless(x) && Reals.isEndless(y);
            boolean oneSign = Reals.isNegative(x) == Reals.isNegative(y);
            switch (how) {
                case PLUS:
                    return bothEndless && !oneSign;
                case MINUS:
                    return bothEndless && oneSign;
                case TIMES:
                    return x == 0.0 && Reals.isEndless(y) || Reals.isEndless(x) && y == 0.0;
                case OVER:
                    return x == 0.0 && y == 0.0 || bothEndless;
                case REST:
                    return y == 0.0 || Reals.isEndless(x);
                default:
                    return false;
            }
        }

        private static double changed(int fn, double v) {
            switch (fn) {
                case 0:
                    return Reals.unsigned(v);
                case 1:
                    return Reals.floor(v);
                case 2:
                    return -1.0 * Reals.floor(-1.0 * v);
                case 3:
                    return Reals.nearest(v);
                case 4:
                    return Reals.signOf(v);
                default:
                    return -1.0 * v;
            }
        }

        private static int order(double x, double y) {
            return x < y ? -1 : x > y ? 1 : 0;
        }

        private static void cast(Strand s, int a, int b, int c) {
            switch (b) {
                case 0:
                    s.doubles[a] = (double) s.numbers[c];
                    break;
                case 1:
                    s.numbers[a] = (long) s.doubles[c];
                    break;
                case 2:
                    s.numbers[a] = (int) s.doubles[c];
                    break;
                case 3:
                    s.floats[a] = (float) s.numbers[c];
                    break;
                case 4:
                    s.numbers[a] = (long) s.floats[c];
                    break;
                case 5:
                    s.numbers[a] = (int) s.floats[c];
                    break;
                case 6:
                    s.doubles[a] = s.floats[c];
                    break;
                case 7:
                    s.floats[a] = (float) s.doubles[c];
                    break;
                default:
                    s.numbers[a] = narrowed(b - 8 + BYTE, s.numbers[c]);
                    break;
            }
        }

        /** The lowest bits of a NUMBER, as an ITEM of a SORT keeps them. */
        static long narrowed(int sort, long v) {
            switch (sort) {
                case TRUTH:
                    return v != 0 ? 1 : 0;
                case BYTE:
                    return (byte) v;
                case SHORT:
                    return (short) v;
                case CHAR:
                    return (char) v;
                case INT:
                    return (int) v;
                default:
                    return v;
            }
        }
    }

    /** Ops 12 to 50: HOLDS, new THINGS, ITEMS, kinds. */
    private static final class Rows {
        private static final int READS = 20, WRITES = 28, TAKES_NODE = 36, PUTS_NODE = 39;
        private static final int FROM = 5, TO = 6, MANY = 7;
        /** Of 36, 37, 38 and of 39, 40, 41: as what T b is TAKEN, and what its ITEMS are. */
        private static final int[] OUTER = {CLASS_ROW + NODE, INT_ROWS, DOUBLE_ROWS};
        private static final int[] INNER = {OBJECT + NODE, INT, DOUBLE};
        private final Things things;

        Rows(Things things) {
            this.things = things;
        }

        int outcomeOfItem(Strand s, int op, int a, int b, int c) {
            if (op < WRITES) {
                return read(s, op - READS, a, b, c);
            }
            if (op < TAKES_NODE) {
                return write(s, op - WRITES, a, b, c);
            }
            return op < PUTS_NODE ? take(s, op - TAKES_NODE, a, b, c) : put(s, op - PUTS_NODE, a, b, c);
        }

        int outcomeOfNew(Strand s, int op, int a, int b, int c) {
            switch (op) {
                case 12:
                    s.holds[a] = s.holds[c];
                    return DONE;
                case 13:
                    s.holds[a] = NONE;
                    return DONE;
                case 14:
                    return makeRow(s, a, b, s.numbers[c]);
                case 15:
                    return makeRow(s, a, CLASS_ROW + b, s.numbers[c]);
                case 16:
                    return makeRows(s, a, INT_ROWS, s.numbers[b], s.numbers[c]);
                case 17:
                    return makeRows(s, a, DOUBLE_ROWS, s.numbers[b], s.numbers[c]);
                default:
                    return makeRow(s, a, OBJECT + b, 0);
            }
        }

        int outcomeOfWhole(Strand s, int op, int a, int b, int c) {
            int t = s.holds[b];
            switch (op) {
                case 42:
                    return size(s, a, t);
                case 43:
                case 44:
                case 45:
                    return anyItem(s, op, a, t, s.numbers[c]);
                case 46:
                    return move(s, s.holds[a], t);
                case 47:
                    return copy(s, a, t);
                case 48:
                    s.numbers[a] = t != NONE && things.isOf(t, c) ? 1 : 0;
                    return DONE;
                case 49:
                    if (!things.mayBeTakenAs(t, c)) {
                        return CAST;
                    }
                    s.holds[a] = t;
                    return DONE;
                default:
                    s.numbers[a] = t == s.holds[c] ? 1 : 0;
                    return DONE;
            }
        }

        /** An OBJECT is made so, too: it has no ITEMS. */
        private int makeRow(Strand s, int a, int sort, long size) {
            if (size > MOST_ITEMS || !things.hasRoomFor(1)) {
                return ROOM;
            }
            if (size < 0) {
                return SIZE;
            }
            s.holds[a] = things.make(sort, (int) size);
            return DONE;
        }

        private int makeRows(Strand s, int a, int sort, long rows, long size) {
            if (rows > MOST_INNER_ROWS || size > MOST_ITEMS || !things.hasRoomFor(1 + Math.max(rows, 0))) {
                return ROOM;
            }
            if (rows < 0 || size < 0) {
                return SIZE;
            }
            int outer = things.make(sort, (int) rows);
            for (int i = 0; i < rows; i++) {
                int inner = things.make(sort == INT_ROWS ? INT : DOUBLE, (int) size);
                things.numbers[Things.slot(outer, i)] = inner;
            }
            s.holds[a] = outer;
            return DONE;
        }

        private int againstItem(int t, int kind, long i) {
            if (!things.mayBeTakenAs(t, kind)) {
                return CAST;
            }
            if (t == NONE) {
                return NULL;
            }
            return things.hasItem(t, i) ? DONE : INDEX;
        }

        private int read(Strand s, int sort, int a, int b, int c) {
            int t = s.holds[b];
            int against = againstItem(t, sort, s.numbers[c]);
            if (against != DONE) {
                return against;
            }
            int slot = Things.slot(t, (int) s.numbers[c]);
            if (sort == DOUBLE) {
                s.doubles[a] = things.reals[slot];
            } else if (sort == FLOAT) {
                s.floats[a] = (float) things.reals[slot];
            } else {
                s.numbers[a] = things.numbers[slot];
            }
            return DONE;
        }

        private int write(Strand s, int sort, int a, int b, int c) {
            int t = s.holds[b];
            int against = againstItem(t, sort, s.numbers[c]);
            if (against != DONE) {
                return against;
            }
            int slot = Things.slot(t, (int) s.numbers[c]);
            if (sort == DOUBLE) {
                things.reals[slot] = s.doubles[a];
            } else if (sort == FLOAT) {
                things.reals[slot] = s.floats[a];
            } else {
                things.numbers[slot] = Figures.narrowed(sort, s.numbers[a]);
            }
            return DONE;
        }

        private int take(Strand s, int which, int a, int b, int c) {
            int t = s.holds[b];
            int against = againstItem(t, OUTER[which], s.numbers[c]);
            if (against != DONE) {
                return against;
            }
            s.holds[a] = (int) things.numbers[Things.slot(t, (int) s.numbers[c])];
            return DONE;
        }

        private int put(Strand s, int which, int a, int b, int c) {
            int t = s.holds[b];
            int given = s.holds[a];
            // Before T b: its NULL and INDEX come behind every CAST.
            if (!things.mayBeTakenAs(given, INNER[which])) {
                return CAST;
            }
            int against = againstItem(t, OUTER[which], s.numbers[c]);
            if (against != DONE) {
                return against;
            }
            if (which == 0 && !things.mayBeTakenAs(given, OBJECT + things.classOf(t))) {
                return STORE;
            }
            things.numbers[Things.slot(t, (int) s.numbers[c])] = given;
            return DONE;
        }

        private int size(Strand s, int a, int t) {
            if (t == NONE) {
                return NULL;
            }
            if (!things.isRow(t)) {
                return KIND;
            }
            s.numbers[a] = things.sizes[t];
            return DONE;
        }

        private int anyItem(Strand s, int op, int a, int t, long i) {
            if (t == NONE) {
                return NULL;
            }
            int sort = things.sorts[t];
            if (sort < (op == 45 ? INT : BYTE) || sort > (op == 43 ? LONG : DOUBLE)) {
                return KIND;
            }
            if (!things.hasItem(t, i)) {
                return INDEX;
            }
            int slot = Things.slot(t, (int) i);
            boolean real = sort == FLOAT || sort == DOUBLE;
            if (op == 43) {
                s.numbers[a] = things.numbers[slot];
            } else if (op == 44) {
                s.doubles[a] = real ? things.reals[slot] : (double) things.numbers[slot];
            } else if (real) {
                int given = (int) s.numbers[a];
                things.reals[slot] = sort == FLOAT ? (double) (float) given : (double) given;
            } else {
                things.numbers[slot] = (int) s.numbers[a];
            }
            return DONE;
        }

        private int move(Strand s, int from, int to) {
            if (from == NONE || to == NONE) {
                return NULL;
            }
            if (things.sorts[from] != things.sorts[to] || things.sorts[from] > DOUBLE) {
                return STORE;
            }
            long n = s.numbers[MANY];
            if (n < 0 || !hasAll(from, s.numbers[FROM], n) || !hasAll(to, s.numbers[TO], n)) {
                return INDEX;
            }
            things.copyItems(from, (int) s.numbers[FROM], to, (int) s.numbers[TO], (int) n);
            return DONE;
        }

        /** By what is left behind the first, as a sum of the two could wrap. */
        private boolean hasAll(int t, long first, long n) {
            return first >= 0 && first <= things.sizes[t] && n <= things.sizes[t] - first;
        }

        private int copy(Strand s, int a, int t) {
            if (t == NONE) {
                return NULL;
            }
            if (!things.isRow(t)) {
                return CAST;
            }
            if (!things.hasRoomFor(1)) {
                return ROOM;
            }
            int made = things.make(things.sorts[t], things.sizes[t]);
            things.copyItems(t, 0, made, 0, things.sizes[t]);
            s.holds[a] = made;
            return DONE;
        }
    }

    /** Ops 51 and 52: fields of OBJECTS. */
    private static final class Members {
        private final Things things;

        Members(Things things) {
            this.things = things;
        }

        /** The kind of the OBJECTS that have a field. */
        static int bearerOf(int b) {
            return OBJECT + (b == LEAF_MARK ? LEAF : b == TWIG_MARK ? TWIG : NODE);
        }

        int outcome(Strand s, int op, int a, int b, int c) {
            return op == 51 ? read(s, a, b, s.holds[c]) : write(s, a, b, s.holds[c]);
        }

        private int read(Strand s, int a, int b, int t) {
            if (!things.mayBeTakenAs(t, bearerOf(b))) {
                return CAST;
            }
            if (t == NONE) {
                return NULL;
            }
            int slot = Things.slot(t, b);
            switch (b) {
                case X_FIELD:
                    s.doubles[a] = things.reals[slot];
                    return DONE;
                case F_FIELD:
                    s.floats[a] = (float) things.reals[slot];
                    return DONE;
                case NEXT:
                case LINE:
                    s.holds[a] = (int) things.numbers[slot];
                    return DONE;
                default:
                    s.numbers[a] = things.numbers[slot];
                    return DONE;
            }
        }

        private int write(Strand s, int a, int b, int t) {
            if (!things.mayBeTakenAs(t, bearerOf(b))) {
                return CAST;
            }
            boolean givesThing = b == NEXT || b == LINE;
            if (givesThing && !things.mayBeTakenAs(s.holds[a], b == NEXT ? OBJECT + NODE : INT)) {
                return CAST;
            }
            if (t == NONE) {
                return NULL;
            }
            int slot = Things.slot(t, b);
            switch (b) {
                case N_FIELD:
                    things.numbers[slot] = s.numbers[a];
                    return DONE;
                case X_FIELD:
                    things.reals[slot] = s.doubles[a];
                    return DONE;
                case F_FIELD:
                    things.reals[slot] = s.floats[a];
                    return DONE;
                case NEXT:
                case LINE:
                    things.numbers[slot] = s.holds[a];
                    return DONE;
                default:
                    things.numbers[slot] = (int) s.numbers[a];
                    return DONE;
            }
        }
    }

    /**
     * Ops 53 to 57: the METHODS, each body traced as it begins. An OBJECT is told to a body by its
     * first slot.
     */
    private static final class Bodies {
        private final Things things;
        private final Reals reals;
        int traced;
        /** Whether the latest MEASURE came to no number. */
        private boolean foundEndless;

        Bodies(Things things, Reals reals) {
            this.things = things;
            this.reals = reals;
        }

        int outcome(Strand s, int op, int a, int b, int c) {
            int t = s.holds[b];
            if (!things.mayBeTakenAs(t, op == 56 ? BLOOMS : op == 57 ? HARD : WEIGHS)) {
                return CAST;
            }
            if (t == NONE) {
                return NULL;
            }
            int ofClass = things.classOf(t);
            int at = Things.slot(t, 0);
            switch (op) {
                case 53:
                    s.numbers[a] = weigh(ofClass, at, s.numbers[c]);
                    return DONE;
                case 54:
                    double measured = measure(ofClass, at);
                    if (foundEndless) {
                        return ENDLESS;
                    }
                    s.doubles[a] = measured;
                    return DONE;
                case 55:
                    s.numbers[a] = tally(ofClass, at);
                    return DONE;
                case 56:
                    s.numbers[a] = bloom(ofClass, at, s.numbers[c]);
                    return DONE;
                default:
                    s.doubles[a] = hardness(at);
                    return DONE;
            }
        }

        private long weigh(int ofClass, int at, long v) {
            switch (ofClass) {
                case NODE:
                    return weighNode(at, v);
                case TWIG:
                    return weighTwig(at, v);
                case STONE:
                    return weighStone(at, v);
                default:
                    return weighLeaf(at, v);
            }
        }

        private long weighNode(int at, long v) {
            begin(1);
            return things.numbers[at + N_FIELD] + v;
        }

        private long weighLeaf(int at, long v) {
            begin(2);
            return 2 * weighNode(at, v) + things.numbers[at + LEAF_MARK];
        }

        private long weighTwig(int at, long v) {
            begin(3);
            return weighLeaf(at, v) - things.numbers[at + TWIG_MARK];
        }

        private long weighStone(int at, long v) {
            begin(4);
            return 0 - weighNode(at, v);
        }

        private double measure(int ofClass, int at) {
            foundEndless = false;
            switch (ofClass) {
                case NODE:
                    return measureNode(at);
                case LEAF:
                    return measureLeaf(at);
                case STONE:
                    return measureStone(at);
                default:
                    return measureBud(at);
            }
        }

        private double measureNode(int at) {
            begin(5);
            return things.reals[at + X_FIELD];
        }

        private double measureLeaf(int at) {
            begin(6);
            return things.reals[at + X_FIELD] + measureNode(at);
        }

        private double measureBud(int at) {
            begin(7);
            return 2.0 * measureLeaf(at);
        }

        private double measureStone(int at) {
            begin(8);
            double x = things.reals[at + X_FIELD];
            foundEndless = Reals.isEndless(x);
            return foundEndless ? x : reals.remainder(x, 4.0);
        }

        /** COUNT, whose name the face has already. */
        private int tally(int ofClass, int at) {
            switch (ofClass) {
                case NODE:
                case STONE:
                    return tallyNode(at);
                case TWIG:
                    return tallyTwig(at);
                default:
                    return tallyLeaf(at);
            }
        }

        private int tallyNode(int at) {
            begin(9);
            int more = (int) things.numbers[at + TALLY] + 1;
            things.numbers[at + TALLY] = more;
            return more;
        }

        private int tallyLeaf(int at) {
            begin(10);
            tallyNode(at);
            return tallyNode(at);
        }

        private int tallyTwig(int at) {
            begin(11);
            return tallyLeaf(at) + (int) things.numbers[at + NODE_MARK];
        }

        private long bloom(int ofClass, int at, long v) {
            begin(12);
            return 3 * v + (ofClass == TWIG ? petalsTwig(at) : petalsBlooms());
        }

        private int petalsBlooms() {
            begin(13);
            return 5;
        }

        private int petalsTwig(int at) {
            begin(14);
            return 7 + (int) things.numbers[at + LEAF_MARK];
        }

        private double hardness(int at) {
            begin(15);
            return 2.0 * Reals.unsigned(things.reals[at + F_FIELD]);
        }

        private void begin(int body) {
            traced = 31 * traced + body;
        }
    }

    /** The TURNS of THREADS, and ops 58 to 65. */
    private static final class Machine {
        private static final int FIRST_OF_HOLDS = 12, FIRST_OF_ITEMS = 20, FIRST_OF_WHOLES = 42;
        private static final int FIRST_OF_FIELDS = 51, FIRST_OF_METHODS = 53, FIRST_OF_WAYS = 58;
        private final Program[] programs;
        private final Things things;
        private final Figures figures;
        private final Rows rows;
        private final Members members;
        private final Bodies bodies;

        Machine(Program[] programs, Things things, Reals reals, Bodies bodies) {
            this.programs = programs;
            this.things = things;
            this.figures = new Figures(reals);
            this.rows = new Rows(things);
            this.members = new Members(things);
            this.bodies = bodies;
        }

        /** At once, not at the next ACT: ACTS that come later are behind an end that has been. */
        void endFinished(Strand s) {
            for (int i = 0; i < MOST_UNDER_WAY && s.isUnderWay(); i++) {
                if (s.place() < programs[s.program()].acts) {
                    return;
                }
                s.endProgram();
            }
        }

        /** DONE if a HANDLER takes it, else the FAILURE by which the THREAD ends. */
        int fail(Strand s, int failure) {
            s.noteFailure(failure);
            for (int i = 0; i < MOST_UNDER_WAY && s.isUnderWay(); i++) {
                int place = failure == SPENT ? NONE : programs[s.program()].takenUpAt(s.place(), failure);
                if (place != NONE) {
                    s.numbers[CAUGHT] = failure;
                    s.goOnAt(place);
                    return DONE;
                }
                s.depth--;
            }
            return failure;
        }

        int outcomeOfAct(Strand s) {
            int[] row = programs[s.program()].actRow;
            int at = s.place() * WIDTH;
            int op = row[at];
            int a = row[at + 1];
            int b = row[at + 2];
            int c = row[at + 3];
            if (op < FIRST_OF_HOLDS) {
                return figures.outcome(s, op, a, b, c);
            }
            if (op < FIRST_OF_ITEMS) {
                return rows.outcomeOfNew(s, op, a, b, c);
            }
            if (op < FIRST_OF_WHOLES) {
                return rows.outcomeOfItem(s, op, a, b, c);
            }
            if (op < FIRST_OF_FIELDS) {
                return rows.outcomeOfWhole(s, op, a, b, c);
            }
            if (op < FIRST_OF_METHODS) {
                return members.outcome(s, op, a, b, c);
            }
            return op < FIRST_OF_WAYS ? bodies.outcome(s, op, a, b, c) : outcomeOfWay(s, op, a, b, c);
        }

        private int outcomeOfWay(Strand s, int op, int a, int b, int c) {
            switch (op) {
                case 58:
                    return b == -1 ? NULL : b;
                case 59:
                    return goOnIf(s, true, a);
                case 60:
                    return goOnIf(s, isSo(s.numbers[b], c), a);
                case 61:
                    return goOnIf(s, s.holds[b] == NONE, a);
                case 62:
                    return call(s, a);
                case 63:
                    s.endProgram();
                    return MOVED;
                case 64:
                    return lock(s, s.holds[b]);
                default:
                    return letGo(s, s.holds[b]);
            }
        }

        private static boolean isSo(long v, int c) {
            switch (c) {
                case 0:
                    return v == 0;
                case 1:
                    return v != 0;
                case 2:
                    return v < 0;
                default:
                    return v > 0;
            }
        }

        private static int goOnIf(Strand s, boolean so, int place) {
            if (!so) {
                return DONE;
            }
            s.goOnAt(place);
            return MOVED;
        }

        private static int call(Strand s, int program) {
            if (s.depth >= MOST_UNDER_WAY) {
                return ROOM;
            }
            s.begin(program);
            return MOVED;
        }

        private int lock(Strand s, int t) {
            if (t == NONE) {
                return NULL;
            }
            if (things.owners[t] != NONE && things.owners[t] != s.which) {
                s.waitsFor = t;
                return WAITS;
            }
            things.owners[t] = s.which;
            things.locks[t]++;
            return DONE;
        }

        private int letGo(Strand s, int t) {
            if (t == NONE) {
                return NULL;
            }
            if (things.owners[t] != s.which) {
                return OWNER;
            }
            things.locks[t]--;
            if (things.locks[t] == 0) {
                things.owners[t] = NONE;
            }
            return DONE;
        }
    }
}
