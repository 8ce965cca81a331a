/** Promises 1 to 18, in their order: what each call refuses, and its edges. */
public final class EdgesOfCallsTest extends Edges {
    private static final int[] NO_THREADS = {LEAST, -2, -1, 3, 4, GREATEST};
    private static final int[] NO_PROGRAMS = {LEAST, -2, -1, 6, 7, GREATEST};
    private static final int[] NO_EIGHTHS = {LEAST, -2, -1, 8, 9, GREATEST};
    private static final int[] NO_FOURTHS = {LEAST, -2, -1, 4, 5, GREATEST};

    public static void main(String[] args) {
        newObject();
        newObjectsAreApart();
        actsAtTheirPlaces();
        actsOfNoProgram();
        actsWhileUnderWay();
        actsThatAreFull();
        handlersAreCounted();
        handlersSpans();
        handlersFailures();
        handlersPlaces();
        emptiesOne();
        emptyAndFullAgain();
        emptyNotNow();
        starts();
        startsNotNow();
        turnsOfHowMany();
        turnsNotNow();
        turnsAnswers();
        endIsToldAtOnce();
        numbers();
        reals();
        smalls();
        holds();
        toldAtFirst();
        toldDone();
        toldFailures();
        toldOfCalls();
        toldWhat();
        thingsAsked();
        thingsOfObjects();
        itemsAsked();
        itemsOfAllSorts();
        fieldsAsked();
        fieldsItHasNot();
        rings();
        traces();
        counts();
        countsNothing();
        clears();
        clearsWhileUnderWay();
        clearsAFullRoom();
        DUE.finish();
    }

    /** "No THINGS, PROGRAMS without ACTS, no THREAD under way." */
    private static void newObject() {
        MachineWitness x = new MachineWitness();
        due("THINGS", x.count(0), 0);
        for (int p = 0; p < 6; p++) {
            due("ACTS of PROGRAM " + p, x.count(p + 1), 0);
        }
        due("THREADS under way", x.count(7), 0);
        for (int t = 0; t < 3; t++) {
            due("THREAD " + t, x.told(t, 7), 0);
            due("turn of THREAD " + t, x.turn(t, 1), -2);
        }
        due("no HANDLERS", x.handler(0, 0, 1, -1, 0), 1);
    }

    private static void newObjectsAreApart() {
        MachineWitness x = new MachineWitness();
        MachineWitness y = new MachineWitness();
        x.act(0, 18, 0, 2, 0);
        x.act(0, 56, 0, 0, 0);
        x.start(0, 0);
        x.turn(0, 1);
        due("THINGS of the other", y.count(0), 0);
        due("ACTS of the other", y.count(1), 0);
        due("THREADS of the other", y.count(7), 0);
        x.turn(0, 1);
        due("THE TRACE", x.trace(), 31 * 12 + 13);
        due("THE TRACE of the other", y.trace(), 0);
    }

    /** "An ACT more: its PLACE." */
    private static void actsAtTheirPlaces() {
        MachineWitness x = new MachineWitness();
        for (int place = 0; place < 40; place++) {
            for (int p = 0; p < 6; p++) {
                due("PLACE", x.act(p, 63, 0, 0, 0), place);
            }
        }
        for (int p = 0; p < 6; p++) {
            due("count", x.count(p + 1), 40);
        }
    }

    /** "BAD": a PROGRAM, an op that is not there. */
    private static void actsOfNoProgram() {
        MachineWitness x = new MachineWitness();
        for (int p : NO_PROGRAMS) {
            due("act of PROGRAM " + p, x.act(p, 63, 0, 0, 0), -1);
        }
        for (int op : new int[] {LEAST, -1, 19, 66, 67, GREATEST}) {
            due("act of op " + op, x.act(0, op, 0, 0, 0), -1);
        }
        due("none is there", x.count(1), 0);
    }

    /** No STATE of act() is told: a THREAD that is under way meets the new ACT. */
    private static void actsWhileUnderWay() {
        MachineWitness x = new MachineWitness();
        x.act(0, 0, 0, 1, 0);
        x.act(0, 0, 0, 2, 0);
        x.start(0, 0);
        due("turn", x.turn(0, 1), 1);
        due("act", x.act(0, 58, 0, 20, 0), 2);
        due("handler", x.handler(0, 2, 3, 20, 39), 1);
        due("turn", x.turn(0, 1), 1);
        due("the new ACT FAILS, the new HANDLER takes it", x.turn(0, 1), 0);
        due("one FAILURE", x.told(0, 1), 1);
    }

    /** "FULL": the 41st ACT. */
    private static void actsThatAreFull() {
        MachineWitness x = new MachineWitness();
        for (int i = 0; i < 40; i++) {
            due("act", x.act(5, 0, 0, i, 0), i);
        }
        due("the 41st", x.act(5, 0, 0, 40, 0), -3);
        due("the 42nd", x.act(5, 0, 0, 41, 0), -3);
        due("of another PROGRAM", x.act(4, 0, 0, 0, 0), 0);
        due("40 there", x.count(6), 40);
    }

    /** "A HANDLER more: how many. .. FULL." */
    private static void handlersAreCounted() {
        MachineWitness x = new MachineWitness();
        for (int p = 0; p < 6; p++) {
            for (int many = 1; many <= 6; many++) {
                due("handler", x.handler(p, 0, 40, -1, 0), many);
            }
            due("the 7th", x.handler(p, 0, 40, -1, 0), -3);
            due("BAD before FULL", x.handler(p, 0, 41, -1, 0), -1);
        }
        for (int p : NO_PROGRAMS) {
            due("handler of PROGRAM " + p, x.handler(p, 0, 40, -1, 0), -1);
        }
    }

    /** "BAD: from, to not 0 <= from < to <= 40". */
    private static void handlersSpans() {
        int[][] good = {{0, 1}, {0, 40}, {39, 40}, {20, 21}};
        int[][] bad = {{-1, 1}, {-1, 40}, {0, 0}, {1, 1}, {40, 40}, {40, 41}, {39, 41}, {0, 41}, {2, 1}, {40, 39}, {LEAST, 1},
            {0, GREATEST}, {0, LEAST}, {GREATEST, LEAST}, {LEAST, GREATEST}, {-2, -1}};
        for (int[] g : good) {
            due("from " + g[0] + " to " + g[1], new MachineWitness().handler(0, g[0], g[1], -1, 0), 1);
        }
        for (int[] b : bad) {
            due("from " + b[0] + " to " + b[1], new MachineWitness().handler(0, b[0], b[1], -1, 0), -1);
        }
    }

    /** "the FAILURE not -1, 1 to 10, 20 to 29". */
    private static void handlersFailures() {
        for (int f = -3; f <= 32; f++) {
            boolean good = f == -1 || f >= 1 && f <= 10 || f >= 20 && f <= 29;
            due("of FAILURE " + f, new MachineWitness().handler(0, 0, 1, f, 0), good ? 1 : -1);
        }
        due("of the least", new MachineWitness().handler(0, 0, 1, LEAST, 0), -1);
        due("of the greatest", new MachineWitness().handler(0, 0, 1, GREATEST, 0), -1);
    }

    /** "PLACES 0 .. 39 .. else BAD". */
    private static void handlersPlaces() {
        for (int place : new int[] {LEAST, -2, -1, 40, 41, GREATEST}) {
            due("PLACE " + place, new MachineWitness().handler(0, 0, 1, -1, place), -1);
        }
        due("PLACE 0", new MachineWitness().handler(0, 0, 1, -1, 0), 1);
        due("PLACE 39", new MachineWitness().handler(0, 0, 1, -1, 39), 1);
    }

    /** "A PROGRAM has no ACTS, no HANDLERS: how many ACTS it had. BAD". */
    private static void emptiesOne() {
        MachineWitness x = new MachineWitness();
        for (int p = 0; p < 6; p++) {
            due("empty of an empty one", x.empty(p), 0);
            x.act(p, 58, 0, 20, 0);
            x.act(p, 63, 0, 0, 0);
            x.handler(p, 0, 1, -1, 1);
        }
        due("empty", x.empty(3), 2);
        due("again", x.empty(3), 0);
        for (int p = 0; p < 6; p++) {
            due("the others are not", x.count(p + 1), p == 3 ? 0 : 2);
        }
        due("the next is the first", x.act(3, 58, 0, 20, 0), 0);
        x.start(0, 3);
        due("its HANDLER is gone", x.turn(0, 1), endBy(20));
        x.start(0, 2);
        due("another's is not", x.turn(0, 5), 0);
        due("its next HANDLER is the first", x.handler(3, 0, 1, -1, 1), 1);
        for (int p : NO_PROGRAMS) {
            due("empty of " + p, x.empty(p), -1);
        }
    }

    private static void emptyAndFullAgain() {
        MachineWitness x = new MachineWitness();
        for (int round = 0; round < 2; round++) {
            for (int i = 0; i < 40; i++) {
                due("act", x.act(0, 0, 0, 0, 0), i);
            }
            for (int i = 1; i <= 6; i++) {
                due("handler", x.handler(0, 0, 1, -1, 0), i);
            }
            due("act, full", x.act(0, 0, 0, 0, 0), -3);
            due("handler, full", x.handler(0, 0, 1, -1, 0), -3);
            due("empty", x.empty(0), 40);
        }
    }

    /** "STATE: some THREAD is under way": of any, with any PROGRAM. */
    private static void emptyNotNow() {
        for (int thread = 0; thread < 3; thread++) {
            MachineWitness x = new MachineWitness();
            x.act(1, 0, 0, 1, 0);
            x.start(thread, 0);
            for (int p = 0; p < 6; p++) {
                due("empty of " + p, x.empty(p), -2);
            }
            due("nothing is changed", x.count(2), 1);
            x.turn(thread, 1);
            due("it has ended", x.empty(1), 1);
        }
    }

    /** "A THREAD is under way with a PROGRAM: 1. BAD". */
    private static void starts() {
        MachineWitness x = new MachineWitness();
        for (int t : NO_THREADS) {
            due("start of THREAD " + t, x.start(t, 0), -1);
        }
        for (int p : NO_PROGRAMS) {
            due("start with PROGRAM " + p, x.start(0, p), -1);
        }
        due("none is under way", x.count(7), 0);
        for (int p = 0; p < 6; p++) {
            x.act(p, 0, 0, p + 10, 0);
        }
        for (int p = 0; p < 6; p++) {
            due("start", x.start(p % 3, p), 1);
            due("under way", x.told(p % 3, 7), 1);
            due("PROGRAMS under way", x.told(p % 3, 5), 1);
            due("turn", x.turn(p % 3, 1), 0);
            due("it was this PROGRAM", x.number(p % 3, 0), p + 10);
        }
        for (int t = 0; t < 3; t++) {
            due("all with one PROGRAM", x.start(t, 0), 1);
            due("THREADS under way", x.count(7), t + 1);
        }
    }

    /** "STATE: it is." */
    private static void startsNotNow() {
        MachineWitness x = new MachineWitness();
        x.act(0, 59, 0, 0, 0);
        for (int t = 0; t < 3; t++) {
            due("start", x.start(t, 0), 1);
            due("again", x.start(t, 0), -2);
            due("with another", x.start(t, 1), -2);
            x.turn(t, 5);
            due("after some ACTS", x.start(t, 0), -2);
            due("PROGRAMS under way", x.told(t, 5), 1);
        }
    }

    /** "n ACTS (1 .. 500) .. BAD". */
    private static void turnsOfHowMany() {
        MachineWitness x = new MachineWitness();
        x.act(0, 59, 0, 0, 0);
        x.start(0, 0);
        for (int n : new int[] {LEAST, -500, -1, 0, 501, 502, GREATEST}) {
            due("turn of " + n, x.turn(0, n), -1);
        }
        for (int t : NO_THREADS) {
            due("turn of THREAD " + t, x.turn(t, 1), -1);
        }
        due("nothing was done", x.told(0, 0), 0);
        due("1", x.turn(0, 1), 1);
        due("500", x.turn(0, 500), 1);
        due("501 in all", x.told(0, 0), 501);
    }

    /** "STATE: it is not under way": never started, ended, ended by a FAILURE, cleared. */
    private static void turnsNotNow() {
        MachineWitness x = new MachineWitness();
        x.act(0, 63, 0, 0, 0);
        x.act(1, 58, 0, 20, 0);
        due("never started", x.turn(0, 1), -2);
        x.start(0, 0);
        due("another", x.turn(1, 1), -2);
        x.turn(0, 1);
        due("ended", x.turn(0, 1), -2);
        x.start(0, 1);
        x.turn(0, 1);
        due("ended by a FAILURE", x.turn(0, 1), -2);
        x.start(0, 0);
        x.clear();
        due("cleared", x.turn(0, 1), -2);
    }

    /** "1 it goes on, 0 it has ended, .. -10 less the FAILURE (SPENT) by which it has ended". */
    private static void turnsAnswers() {
        MachineWitness x = new MachineWitness();
        x.act(0, 0, 0, 0, 0);
        x.act(0, 0, 0, 0, 0);
        x.act(1, 58, 0, -1, 0);
        x.act(2, 58, 0, 29, 0);
        x.act(3, 58, 0, 20, 0);
        x.handler(3, 0, 1, -1, 0);
        x.start(0, 0);
        due("it goes on", x.turn(0, 1), 1);
        due("it has ended", x.turn(0, 1), 0);
        x.start(0, 1);
        due("by NULL", x.turn(0, 1), -11);
        x.start(0, 2);
        due("by RAISED 29", x.turn(0, 1), -39);
        x.start(0, 3);
        due("by SPENT", x.turn(0, 500), -21);
    }

    /** "(An end behind the last ACT is told at once.)" */
    private static void endIsToldAtOnce() {
        MachineWitness x = new MachineWitness();
        x.act(0, 62, 1, 0, 0);
        for (int p = 1; p < 5; p++) {
            x.act(p, 62, p + 1, 0, 0);
        }
        x.act(5, 0, 0, 1, 0);
        x.start(0, 0);
        due("five CALLS", x.turn(0, 5), 1);
        due("six under way", x.told(0, 5), 6);
        due("with the last ACT all end", x.turn(0, 1), 0);
        due("none under way", x.told(0, 5), 0);
        due("no THREAD under way", x.count(7), 0);
        endOfEight();
    }

    /** PROGRAM 5 CALLS itself until N 0 is 3: eight are under way, and all end with one ACT. */
    private static void endOfEight() {
        MachineWitness x = new MachineWitness();
        x.act(0, 0, 1, 1, 0);
        for (int p = 0; p < 5; p++) {
            x.act(p, 62, p + 1, 0, 0);
        }
        x.act(5, 3, 0, 0, 1);
        x.act(5, 0, 2, 3, 0);
        x.act(5, 3, 2, 1, 0);
        x.act(5, 60, 5, 2, 0);
        x.act(5, 62, 5, 0, 0);
        x.start(0, 0);
        due("all but the last ACT", x.turn(0, 1 + 5 + 5 + 5 + 3), 1);
        due("eight under way", x.told(0, 5), 8);
        due("with the last ACT all end", x.turn(0, 1), 0);
        due("none under way", x.told(0, 5), 0);
    }

    /** "A NUMBER. LOST: BAD." */
    private static void numbers() {
        Bench w = new Bench();
        for (int k = 0; k < 8; k++) {
            w.run(act(0, k, k - 4, 0));
        }
        for (int k = 0; k < 8; k++) {
            due("NUMBER " + k, w.x.number(0, k), k - 4);
            due("of another THREAD", w.x.number(2, k), 0);
        }
        for (int k : NO_EIGHTHS) {
            due("NUMBER " + k, w.x.number(0, k), LOST);
        }
        for (int t : NO_THREADS) {
            due("of THREAD " + t, w.x.number(t, 0), LOST);
        }
    }

    /** "The bits of a DOUBLE. LOST: BAD." */
    private static void reals() {
        double[] vs = {0.0, -0.0, 1.0, -1.0, Double.MIN_VALUE, Double.MIN_NORMAL, Math.nextDown(Double.MIN_NORMAL),
            Double.MAX_VALUE, -Double.MAX_VALUE, Double.POSITIVE_INFINITY, Double.NEGATIVE_INFINITY, 0.1, Math.nextDown(2.0),
            Math.nextUp(1.0), 0x1p-1022 * 1.5, 0x0.8p-1022, 0x1p1023, -0x1p-1074};
        for (double v : vs) {
            for (int k = 0; k < 3; k++) {
                Bench w = new Bench();
                w.setDouble(k, v);
                due("bits of " + v, w.x.real(0, k), bits(v));
            }
        }
        Bench w = new Bench();
        w.run(act(1, 3, 1, 0));
        due("DOUBLE 3", w.x.real(0, 3), bits(1.0));
        for (int k : NO_FOURTHS) {
            due("DOUBLE " + k, w.x.real(0, k), LOST);
        }
        for (int t : NO_THREADS) {
            due("of THREAD " + t, w.x.real(t, 0), LOST);
        }
    }

    /** "The bits of a FLOAT. LOST: BAD." */
    private static void smalls() {
        float[] vs = {0.0f, -0.0f, 1.0f, -1.0f, Float.MIN_VALUE, Float.MIN_NORMAL, Math.nextDown(Float.MIN_NORMAL),
            Float.MAX_VALUE, -Float.MAX_VALUE, Float.POSITIVE_INFINITY, Float.NEGATIVE_INFINITY, 0.1f, Math.nextDown(2.0f),
            Math.nextUp(1.0f), -Float.MIN_VALUE, 0x1p127f};
        for (float v : vs) {
            for (int k = 0; k < 4; k++) {
                Bench w = new Bench();
                w.setFloat(k, v);
                due("bits of " + v, w.x.small(0, k), bits(v));
            }
        }
        Bench w = new Bench();
        for (int k : NO_FOURTHS) {
            due("FLOAT " + k, w.x.small(0, k), LOST);
        }
        for (int t : NO_THREADS) {
            due("of THREAD " + t, w.x.small(t, 0), LOST);
        }
    }

    /** "The THING of a HOLD; NONE. BAD is -2 here." */
    private static void holds() {
        Bench w = new Bench();
        for (int k = 0; k < 8; k++) {
            due("none in HOLD " + k, w.x.hold(0, k), -1);
            w.run(act(18, k, 0, 0));
        }
        for (int k = 0; k < 8; k++) {
            due("HOLD " + k, w.x.hold(0, k), k);
        }
        for (int k : NO_EIGHTHS) {
            due("HOLD " + k, w.x.hold(0, k), -2);
        }
        for (int t : NO_THREADS) {
            due("of THREAD " + t, w.x.hold(t, 0), -2);
        }
    }

    private static void toldAtFirst() {
        MachineWitness x = new MachineWitness();
        for (int t = 0; t < 3; t++) {
            told("THREAD " + t + " at first", x, t, 0, 0, 0, -1, -1, 0, -1, 0);
        }
    }

    /** "0 ACTS done ever (not those that FAILED)": over all its PROGRAMS. */
    private static void toldDone() {
        MachineWitness x = new MachineWitness();
        x.act(0, 0, 0, 1, 0);
        x.act(0, 58, 0, 20, 0);
        x.handler(0, 1, 2, 20, 39);
        for (int round = 1; round <= 5; round++) {
            x.start(1, 0);
            due("turn", x.turn(1, 500), 0);
            due("ACTS done ever", x.told(1, 0), round);
            due("FAILURES ever", x.told(1, 1), round);
        }
        due("of another THREAD", x.told(0, 0), 0);
    }

    /** "1 FAILURES ever (SPENT's 21st too), 2 the latest FAILURE, SPENT (0), 3, 4 the PROGRAM, PLACE at which that came". */
    private static void toldFailures() {
        MachineWitness x = new MachineWitness();
        x.act(4, 0, 0, 1, 0);
        x.act(4, 0, 0, 1, 0);
        x.act(4, 58, 0, 27, 0);
        x.act(5, 0, 0, 1, 0);
        x.act(5, 58, 0, 28, 0);
        x.handler(5, 0, 40, -1, 1);
        x.start(0, 4);
        x.turn(0, 500);
        told("27", x, 0, 2, 1, 27, 4, 2, 0, -1, 0);
        x.start(0, 5);
        told("the latest stays", x, 0, 2, 1, 27, 4, 2, 1, -1, 1);
        x.turn(0, 1);
        told("still", x, 0, 3, 1, 27, 4, 2, 1, -1, 1);
        x.turn(0, 1);
        told("28", x, 0, 3, 2, 28, 5, 1, 1, -1, 1);
        due("SPENT", x.turn(0, 500), endBy(SPENT));
        told("SPENT", x, 0, 3, 23, SPENT, 5, 1, 0, -1, 0);
    }

    /** "(NONE; not of CALLS)": a CALL that FAILS is neither a FAILURE more nor its PLACE. */
    private static void toldOfCalls() {
        MachineWitness x = new MachineWitness();
        x.act(0, 0, 0, 1, 0);
        x.act(0, 62, 1, 0, 0);
        x.act(0, 63, 0, 0, 0);
        x.act(1, 62, 2, 0, 0);
        x.act(2, 0, 0, 1, 0);
        x.act(2, 0, 0, 1, 0);
        x.act(2, 0, 0, 1, 0);
        x.act(2, 58, 0, 20, 0);
        x.handler(0, 1, 2, 20, 2);
        x.start(0, 0);
        due("taken at the first CALL", x.turn(0, 7), 1);
        told("taken", x, 0, 6, 1, 20, 2, 3, 1, -1, 1);
        due("the end", x.turn(0, 1), 0);
        due("ACTS", x.told(0, 0), 7);
    }

    /** "BAD is -2 here." */
    private static void toldWhat() {
        MachineWitness x = new MachineWitness();
        for (int k : NO_EIGHTHS) {
            due("told " + k, x.told(0, k), -2);
        }
        for (int t : NO_THREADS) {
            due("told of THREAD " + t, x.told(t, 0), -2);
        }
    }

    /** "0 its SORT, 1 how many ITEMS (OBJECTS: 0), 2 the THREAD that LOCKS it (NONE), 3 how often (0). BAD is -2 here." */
    private static void thingsAsked() {
        for (int sort : SORTS) {
            Bench w = new Bench();
            due("no THING yet", w.x.thing(0, 0), -2);
            w.run(act(0, 0, 5, 0), making(sort));
            due("its SORT", w.x.thing(0, 0), sort);
            due("ITEMS", w.x.thing(0, 1), sort < 16 ? 5 : 0);
            due("nobody LOCKS it", w.x.thing(0, 2), -1);
            due("how often", w.x.thing(0, 3), 0);
            for (int what : NO_FOURTHS) {
                due("thing of " + what, w.x.thing(0, what), -2);
            }
            due("THING -1", w.x.thing(-1, 0), -2);
            due("one behind the last", w.x.thing(w.x.count(0), 0), -2);
            due("the least", w.x.thing(LEAST, 0), -2);
            due("the greatest", w.x.thing(GREATEST, 0), -2);
        }
    }

    private static void thingsOfObjects() {
        for (int thread = 0; thread < 3; thread++) {
            MachineWitness x = new MachineWitness();
            x.act(0, 18, 0, thread, 0);
            x.act(0, 64, 0, 0, 0);
            x.act(0, 64, 0, 0, 0);
            x.act(0, 59, 3, 0, 0);
            x.start(thread, 0);
            x.turn(thread, 4);
            due("OBJECTS: 0", x.thing(0, 1), 0);
            due("the THREAD", x.thing(0, 2), thread);
            due("how often", x.thing(0, 3), 2);
        }
    }

    /** "LOST: BAD (OBJECTS, too)." */
    private static void itemsAsked() {
        for (int sort : SORTS) {
            Bench w = new Bench();
            due("no THING yet", w.x.item(0, 0), LOST);
            w.run(act(0, 0, 5, 0), making(sort));
            long first = sort >= 16 ? LOST : sort > 12 ? 1 : sort > 7 ? -1 : 0;
            due("the first", w.x.item(0, 0), first);
            due("the last", w.x.item(0, 4), sort == 13 || sort == 14 ? 5 : first);
            for (int i : new int[] {LEAST, -1, 5, 12, GREATEST}) {
                due("ITEM " + i, w.x.item(0, i), LOST);
            }
            due("of THING -1", w.x.item(-1, 0), LOST);
            due("behind the last THING", w.x.item(w.x.count(0), 0), LOST);
            due("of the least", w.x.item(LEAST, 0), LOST);
            due("of the greatest", w.x.item(GREATEST, 0), LOST);
        }
    }

    /** "as a long, the bits of a float, a double, the THING's number (NONE)". */
    private static void itemsOfAllSorts() {
        long[] want = {1, -2, -2, 65534, -2, -2, bits(-2.0f), bits(-2.0)};
        for (int k = 0; k < 8; k++) {
            Bench w = new Bench();
            w.run(act(0, 0, 12, 0), act(14, 0, k, 0), act(0, 0, 11, 0), act(0, 1, -2, 0), act(1, 1, -2, 0), act(2, 1, -2, 0),
                act(28 + k, 1, 0, 0));
            due("SORT " + k, w.x.item(0, 11), want[k]);
            due("one before", w.x.item(0, 10), 0);
        }
    }

    /** "A field of an OBJECT, numbered as in 51 (bits; numbers of THINGS, NONE). LOST: BAD (ROWS ..)." */
    private static void fieldsAsked() {
        for (int sort : SORTS) {
            Bench w = new Bench();
            due("no THING yet", w.x.field(0, 0), LOST);
            w.run(act(0, 0, 12, 0), sort == 13 || sort == 14 ? act(0, 0, 6, 0) : act(0, 1, 0, 0), making(sort));
            due("n", w.x.field(0, 0), sort >= 16 ? 0 : LOST);
            due("NEXT", w.x.field(0, 3), sort >= 16 ? -1 : LOST);
            for (int b : new int[] {LEAST, -1, 9, 10, GREATEST}) {
                due("field " + b, w.x.field(0, b), LOST);
            }
            due("of THING -1", w.x.field(-1, 0), LOST);
            due("behind the last THING", w.x.field(w.x.count(0), 0), LOST);
            due("of the least", w.x.field(LEAST, 0), LOST);
            due("of the greatest", w.x.field(GREATEST, 0), LOST);
        }
        Bench w = new Bench();
        w.setNumber(0, Long.MAX_VALUE);
        w.setFloat(0, -Float.MIN_VALUE);
        w.setDouble(0, -Double.MIN_VALUE);
        due("all are written", w.run(act(18, 0, 0, 0), act(18, 1, 1, 0), act(14, 2, 4, 1), act(52, 0, 0, 0), act(52, 0, 1, 0),
            act(52, 0, 2, 0), act(52, 1, 3, 0), act(52, 2, 4, 0), act(55, 1, 0, 0)), 0);
        long[] want = {Long.MAX_VALUE, bits(-Double.MIN_VALUE), bits(-Float.MIN_VALUE), 1, 2, 1, 0};
        for (int b = 0; b < 7; b++) {
            due("field " + b, w.x.field(0, b), want[b]);
        }
    }

    /** "LOST: BAD (.. MARKS that it has not)." */
    private static void fieldsItHasNot() {
        for (int c = 0; c < 5; c++) {
            Bench w = new Bench();
            w.run(act(18, 0, c, 0));
            due("the NODE's MARK of CLASS " + c, w.x.field(0, 6), 0);
            due("the LEAF's MARK of CLASS " + c, w.x.field(0, 7), c >= 1 && c <= 3 ? 0 : LOST);
            due("the TWIG's MARK of CLASS " + c, w.x.field(0, 8), c == 3 ? 0 : LOST);
        }
    }

    /** "(1, 0 ..). BAD." */
    private static void rings() {
        MachineWitness x = new MachineWitness();
        x.act(0, 18, 0, 0, 0);
        x.act(0, 64, 0, 0, 0);
        x.act(0, 59, 1, 0, 0);
        for (int t = 0; t < 3; t++) {
            due("at first", x.ring(t), 0);
            x.start(t, 0);
            due("turn", x.turn(t, 9), 1);
            due("none WAITS for its own", x.ring(t), 0);
            due("none WAITS", x.told(t, 6), -1);
        }
        for (int t : NO_THREADS) {
            due("ring of " + t, x.ring(t), -1);
        }
    }

    /** "THE TRACE": of all THREADS one. */
    private static void traces() {
        Bench w = new Bench();
        due("at first", w.x.trace(), 0);
        for (int t = 0; t < 3; t++) {
            w.runBy(t, act(18, 0, 0, 0), act(53, 0, 0, 0));
        }
        due("three WEIGH", w.x.trace(), (31 * 1 + 1) * 31 + 1);
    }

    /** "0 THINGS, 1 to 6 ACTS of PROGRAMS 0 to 5, 7 THREADS under way." */
    private static void counts() {
        MachineWitness x = new MachineWitness();
        for (int p = 0; p < 6; p++) {
            for (int i = 0; i <= p; i++) {
                x.act(p, 18, 0, 0, 0);
            }
        }
        for (int t = 0; t < 3; t++) {
            x.start(t, 5);
            x.turn(t, t + 1);
            due("THREADS", x.count(7), t + 1);
        }
        due("THINGS", x.count(0), 6);
        for (int p = 0; p < 6; p++) {
            due("ACTS of PROGRAM " + p, x.count(p + 1), p + 1);
        }
        x.turn(1, 500);
        due("one has ended", x.count(7), 2);
        due("THINGS", x.count(0), 10);
    }

    /** "BAD." */
    private static void countsNothing() {
        for (int what : NO_EIGHTHS) {
            due("count of " + what, new MachineWitness().count(what), -1);
        }
    }

    /** "All is as at first: how many THINGS there were." */
    private static void clears() {
        String first = State.ofAll(new MachineWitness());
        due("nothing", new MachineWitness().clear(), 0);
        Bench w = Bench.furnished();
        w.run(act(53, 0, 2, 0));
        for (int p = 0; p < 6; p++) {
            w.x.act(p, 58, 0, 20, 0);
            w.x.handler(p, 0, 1, 21, 39);
        }
        w.x.start(2, 5);
        due("a FAILURE", w.x.turn(2, 1), endBy(20));
        due("11 THINGS", w.x.clear(), 11);
        dueSame("all is as at first", State.ofAll(w.x), first);
        due("again", w.x.clear(), 0);
        for (int p = 0; p < 6; p++) {
            due("no HANDLERS", w.x.handler(p, 0, 1, -1, 0), 1);
        }
        due("no THING", w.x.thing(0, 0), -2);
        due("no ITEM", w.x.item(0, 0), LOST);
        due("no field", w.x.field(2, 0), LOST);
        w.x.clear();
        w.run(act(18, 3, 0, 0));
        due("the first THING again", w.x.hold(0, 3), 0);
        due("one", w.x.clear(), 1);
    }

    /** No STATE of clear() is told: THREADS that are under way are so no more, their LOCKS are gone. */
    private static void clearsWhileUnderWay() {
        String first = State.ofAll(new MachineWitness());
        MachineWitness x = new MachineWitness();
        x.act(0, 18, 0, 0, 0);
        x.act(0, 64, 0, 0, 0);
        x.act(0, 62, 1, 0, 0);
        x.act(1, 59, 0, 0, 0);
        for (int t = 0; t < 3; t++) {
            x.start(t, 0);
            x.turn(t, 9);
            due("two PROGRAMS", x.told(t, 5), 2);
        }
        due("three THINGS", x.clear(), 3);
        dueSame("all is as at first", State.ofAll(x), first);
        x.act(0, 18, 0, 0, 0);
        x.start(1, 0);
        x.turn(1, 1);
        due("nobody LOCKS it", x.thing(0, 2), -1);
        due("not once", x.thing(0, 3), 0);
    }

    private static void clearsAFullRoom() {
        Bench w = new Bench();
        for (int round = 0; round < 2; round++) {
            w.fill(160);
            due("full", w.run(act(18, 0, 0, 0)), endBy(ROOM));
            due("160 THINGS", w.x.clear(), 160);
        }
        due("there is room", w.run(act(18, 0, 0, 0)), 0);
    }
}
