/** Ops 58 to 65, HANDLERS and section 3, TURNS, at the edges that the document names for each. */
public final class EdgesOfTurnsTest extends Edges {
    public static void main(String[] args) {
        raisedFrom20To29();
        raisedNone();
        goesOnAtAPlace();
        goesOnBehindTheLastAct();
        goesOnIf();
        goesOnIfNone();
        eightProgramsUnderWay();
        eightOfEachThread();
        goesOnBehindTheCall();
        endsBehindTheLastAct();
        emptyProgramsEnd();
        locksOnceMore();
        letsGoOnce();
        handlersUpToBelow();
        handlersOfEachFailure();
        handlersOfAny();
        firstHandlerThatFits();
        handlersPlaceBehindTheLastAct();
        number7BecomesTheFailure();
        callFailsInTheOneThatCalled();
        callFailsThroughAllEight();
        handlersAreOfTheirProgram();
        turnsOfSome();
        failedActsCount();
        spentAtThe21st();
        spentOfOneTurn();
        spentCountsNoCalls();
        spentWhateverHandlers();
        spentIsNotAnOrdinaryEnd();
        endLetsGo();
        registersStay();
        DUE.finish();
    }

    private static MachineWitness with(int[]... acts) {
        MachineWitness x = new MachineWitness();
        addTo(x, 0, acts);
        return x;
    }

    private static void addTo(MachineWitness x, int program, int[]... acts) {
        for (int[] a : acts) {
            due("act", x.act(program, a[0], a[1], a[2], a[3]) >= 0 ? 1 : 0, 1);
        }
    }

    private static int startAndTurn(MachineWitness x, int n) {
        due("start", x.start(0, 0), 1);
        return x.turn(0, n);
    }

    /** "58 RAISED b (20 .. 29)". */
    private static void raisedFrom20To29() {
        for (int b = 20; b <= 29; b++) {
            due("RAISED " + b, startAndTurn(with(act(58, LEAST, b, GREATEST)), 1), endBy(b));
        }
        for (int b : new int[] {LEAST, -2, 0, 1, 10, 11, 19, 30, GREATEST}) {
            due("58 of " + b, new MachineWitness().act(0, 58, 0, b, 0), -1);
        }
    }

    /** "b = -1: one that is none: NULL." */
    private static void raisedNone() {
        due("RAISED none", startAndTurn(with(act(58, 0, -1, 0)), 1), endBy(NULL));
    }

    /** "59 it goes on at PLACE a": at the first, at itself, at the last of 40. */
    private static void goesOnAtAPlace() {
        MachineWitness x = with(act(0, 0, 1, 0), act(59, 0, LEAST, GREATEST));
        due("at the first", startAndTurn(x, 499), 1);
        told("at the first", x, 0, 499, 0, 0, -1, -1, 1, -1, 1);
        MachineWitness y = with(act(59, 0, 0, 0));
        due("at itself", startAndTurn(y, 500), 1);
        due("at itself", y.told(0, 0), 500);
        int[][] forty = new int[40][];
        for (int i = 0; i < 40; i++) {
            forty[i] = i == 0 ? act(59, 39, 0, 0) : i == 39 ? act(0, 0, 7, 0) : act(58, 0, 20, 0);
        }
        MachineWitness z = with(forty);
        due("at the last of 40", startAndTurn(z, 500), 0);
        due("it was there", z.number(0, 0), 7);
        due("two ACTS", z.told(0, 0), 2);
    }

    /** PLACES 0 .. 39 may be gone to where no ACT is: that is behind the last. */
    private static void goesOnBehindTheLastAct() {
        for (int place : new int[] {1, 2, 39}) {
            due("59 to " + place, startAndTurn(with(act(59, place, 0, 0)), 1), 0);
            due("60 to " + place, startAndTurn(with(act(60, place, 0, 0)), 1), 0);
            due("61 to " + place, startAndTurn(with(act(61, place, 0, 0)), 1), 0);
        }
        MachineWitness x = with(act(59, 39, 0, 0));
        startAndTurn(x, 1);
        due("that was one ACT", x.told(0, 0), 1);
        due("59 to 40", x.act(0, 59, 40, 0, 0), -1);
        due("59 to -1", x.act(0, 59, -1, 0, 0), -1);
    }

    /** "60 if N b is (c = 0) 0, (1) not 0, (2) below 0, (3) above 0". */
    private static void goesOnIf() {
        long[] vs = {0, 1, -1, Long.MAX_VALUE, Long.MIN_VALUE, 1L << 32, 1L << 31, -(1L << 32)};
        for (long v : vs) {
            boolean[] so = {v == 0, v != 0, v < 0, v > 0};
            for (int c = 0; c < 4; c++) {
                Bench w = new Bench();
                w.setNumber(0, v);
                w.run(act(60, 2, 0, c), act(0, 1, 9, 0));
                due("60 of " + v + " by " + c, w.x.number(0, 1), so[c] ? 0 : 9);
            }
        }
        due("60 by 4", new MachineWitness().act(0, 60, 0, 0, 4), -1);
        due("60 by -1", new MachineWitness().act(0, 60, 0, 0, -1), -1);
    }

    /** "61 if T b is none." */
    private static void goesOnIfNone() {
        for (int k = 0; k < 2; k++) {
            Bench w = new Bench();
            w.run(act(18, 0, 0, 0), act(61, 3, k, LEAST), act(0, 1, 9, 0));
            due("61 of HOLD " + k, w.x.number(0, 1), k == 0 ? 9 : 0);
        }
    }

    /** "62 PROGRAM a is CALLED: ROOM: 8 PROGRAMS are under way". */
    private static void eightProgramsUnderWay() {
        MachineWitness x = with(act(62, 0, LEAST, GREATEST));
        x.start(0, 0);
        for (int deep = 2; deep <= 8; deep++) {
            due("turn", x.turn(0, 1), 1);
            due("PROGRAMS under way", x.told(0, 5), deep);
        }
        due("a ninth", x.turn(0, 1), endBy(ROOM));
        told("a ninth", x, 0, 7, 1, ROOM, 0, 0, 0, -1, 0);
        MachineWitness y = with(act(62, 0, 0, 0), act(59, 1, 0, 0));
        y.handler(0, 0, 1, ROOM, 1);
        due("the eighth takes it itself", startAndTurn(y, 8), 1);
        told("taken", y, 0, 7, 1, ROOM, 0, 0, 8, -1, 1);
        due("N 7", y.number(0, 7), ROOM);
        due("62 of 6", x.act(0, 62, 6, 0, 0), -1);
        due("62 of -1", x.act(0, 62, -1, 0, 0), -1);
    }

    /** The 8 are those of a THREAD: another has room for its own. */
    private static void eightOfEachThread() {
        MachineWitness x = with(act(62, 0, 0, 0));
        for (int thread = 0; thread < 3; thread++) {
            x.start(thread, 0);
            due("8 of THREAD " + thread, x.turn(thread, 7), 1);
        }
        for (int thread = 0; thread < 3; thread++) {
            due("PROGRAMS under way", x.told(thread, 5), 8);
            due("a ninth", x.turn(thread, 1), endBy(ROOM));
        }
    }

    /** "it goes on behind when that ends". */
    private static void goesOnBehindTheCall() {
        MachineWitness x = with(act(62, 1, 0, 0), act(0, 1, 2, 0), act(62, 1, 0, 0), act(0, 2, 3, 0));
        addTo(x, 1, act(0, 3, 1, 0), act(3, 0, 0, 3), act(63, LEAST, 0, GREATEST), act(58, 0, 20, 0));
        due("two CALLS", startAndTurn(x, 500), 0);
        due("it was CALLED twice", x.number(0, 0), 2);
        due("behind the first", x.number(0, 1), 2);
        due("behind the second", x.number(0, 2), 3);
        due("ACTS", x.told(0, 0), 10);
    }

    /** "63 the PROGRAM ends (as it does behind its last ACT; that is no ACT)." */
    private static void endsBehindTheLastAct() {
        MachineWitness x = with(act(0, 0, 1, 0));
        due("behind the last ACT", startAndTurn(x, 1), 0);
        due("one ACT", x.told(0, 0), 1);
        MachineWitness y = with(act(63, 0, 0, 0), act(58, 0, 20, 0));
        due("63", startAndTurn(y, 1), 0);
        due("one ACT", y.told(0, 0), 1);
        MachineWitness z = with(act(62, 1, 0, 0), act(62, 1, 0, 0), act(0, 1, 1, 0));
        addTo(z, 1, act(0, 0, 1, 0));
        due("two CALLS, two ends", startAndTurn(z, 4), 1);
        due("ends are no ACTS", z.told(0, 0), 4);
        due("the last ACT", z.turn(0, 1), 0);
    }

    /** A PROGRAM without ACTS ends as it begins. */
    private static void emptyProgramsEnd() {
        MachineWitness x = new MachineWitness();
        due("start", x.start(0, 5), 1);
        told("started", x, 0, 0, 0, 0, -1, -1, 1, -1, 1);
        due("an empty PROGRAM", x.turn(0, 1), 0);
        told("ended", x, 0, 0, 0, 0, -1, -1, 0, -1, 0);
        addTo(x, 0, act(62, 5, 0, 0));
        due("an empty PROGRAM is CALLED", startAndTurn(x, 1), 0);
        due("one ACT", x.told(0, 0), 1);
    }

    /** "64 LOCKS T b .. else it has it once more." */
    private static void locksOnceMore() {
        MachineWitness x = with(act(18, 0, 0, 0), act(64, LEAST, 0, GREATEST), act(59, 1, 0, 0));
        due("499 ACTS", startAndTurn(x, 499), 1);
        due("the THREAD", x.thing(0, 2), 0);
        due("how often", x.thing(0, 3), 249);
        x.turn(0, 500);
        due("how often", x.thing(0, 3), 499);
    }

    /** "65 T b is let go once: NULL; OWNER: this THREAD has it not." */
    private static void letsGoOnce() {
        MachineWitness x = with(act(18, 0, 0, 0), act(64, 0, 0, 0), act(64, 0, 0, 0), act(65, LEAST, 0, GREATEST),
            act(65, 0, 0, 0), act(65, 0, 0, 0));
        due("LOCKED twice", startAndTurn(x, 3), 1);
        for (int left = 1; left >= 0; left--) {
            due("let go", x.turn(0, 1), 1);
            due("how often", x.thing(0, 3), left);
            due("the THREAD", x.thing(0, 2), left == 1 ? 0 : -1);
        }
        due("no more", x.turn(0, 1), endBy(OWNER));
        due("65 of none", startAndTurn(with(act(65, 0, 0, 0)), 1), endBy(NULL));
        due("64 of none", startAndTurn(with(act(64, 0, 0, 0)), 1), endBy(NULL));
        due("65 of one never LOCKED", startAndTurn(with(act(18, 0, 0, 0), act(65, 0, 0, 0)), 2), endBy(OWNER));
    }

    /** "from PLACE from up to below to". */
    private static void handlersUpToBelow() {
        int[][] spans = {{0, 1, 0}, {1, 2, 0}, {2, 3, 1}, {2, 40, 1}, {0, 40, 1}, {0, 3, 1}, {0, 2, 0}, {3, 4, 0}, {3, 40, 0},
            {39, 40, 0}, {1, 3, 1}};
        for (int[] s : spans) {
            MachineWitness x = with(act(0, 0, 1, 0), act(0, 0, 2, 0), act(58, 0, 20, 0), act(0, 0, 4, 0));
            due("handler", x.handler(0, s[0], s[1], 20, 3), 1);
            due("a FAILURE at 2, from " + s[0] + " to " + s[1], startAndTurn(x, 500), s[2] == 1 ? 0 : endBy(20));
            due("PLACE 3", x.number(0, 0), s[2] == 1 ? 4 : 2);
        }
        int[][] forty = new int[40][];
        for (int i = 0; i < 40; i++) {
            forty[i] = i == 39 ? act(58, 0, 20, 0) : act(0, 0, i, 0);
        }
        MachineWitness x = with(forty);
        x.handler(0, 0, 39, -1, 0);
        due("not at the last PLACE", startAndTurn(x, 500), endBy(20));
        x.handler(0, 39, 40, -1, 39);
        x.start(0, 0);
        due("at the last PLACE, to itself", x.turn(0, 50), 1);
        due("11 times", x.told(0, 1), 1 + 11);
    }

    /** An ACT for each FAILURE that an ACT can have, on a furnished Bench. */
    private static final int[][] FAILS = {
        {NULL, 42, 1, 7, 0}, {INDEX, 24, 1, 0, 2}, {CAST, 49, 1, 0, 24}, {STORE, 39, 3, 1, 0}, {SIZE, 14, 2, 4, 3},
        {ZERO, 3, 1, 3, 0}, {OWNER, 65, 0, 2, 0}, {ENDLESS, 5, 0, 3, 0}, {ROOM, 14, 2, 4, 4}, {KIND, 42, 1, 2, 0},
        {20, 58, 0, 20, 0}, {21, 58, 0, 21, 0}, {22, 58, 0, 22, 0}, {23, 58, 0, 23, 0}, {24, 58, 0, 24, 0},
        {25, 58, 0, 25, 0}, {26, 58, 0, 26, 0}, {27, 58, 0, 27, 0}, {28, 58, 0, 28, 0}, {29, 58, 0, 29, 0}};

    /** The answer of a furnished Bench on which PROGRAM 0 has one ACT, which FAILS, and HANDLERS of these. */
    private static int handled(Bench w, int[] fails, int... failures) {
        w.x.act(0, fails[1], fails[2], fails[3], fails[4]);
        for (int f : failures) {
            w.x.handler(0, 0, 1, f, 39);
        }
        w.x.start(0, 0);
        return w.x.turn(0, 1);
    }

    /** "a FAILURE (or -1: any)": that one and no other. */
    private static void handlersOfEachFailure() {
        for (int[] f : FAILS) {
            due("no HANDLER", handled(Bench.furnished(), f), endBy(f[0]));
            for (int[] g : FAILS) {
                int answer = handled(Bench.furnished(), f, g[0]);
                due("FAILURE " + f[0] + ", a HANDLER of " + g[0], answer, f[0] == g[0] ? 0 : endBy(f[0]));
            }
        }
    }

    /** "-1: any". */
    private static void handlersOfAny() {
        for (int[] f : FAILS) {
            due("FAILURE " + f[0] + ", a HANDLER of any", handled(Bench.furnished(), f, -1), 0);
        }
    }

    /** "HANDLERS of a PROGRAM, in order: .. the first that fits takes it". */
    private static void firstHandlerThatFits() {
        int[][][] handlers = {
            {{0, 1, -1, 1}, {0, 1, 20, 2}}, {{0, 1, 20, 1}, {0, 1, -1, 2}}, {{0, 1, 21, 2}, {0, 1, 20, 1}, {0, 40, -1, 2}},
            {{1, 40, -1, 2}, {0, 1, 20, 1}, {0, 40, 20, 2}},
            {{1, 2, -1, 2}, {1, 3, -1, 2}, {0, 40, 1, 2}, {0, 40, 29, 2}, {2, 40, 20, 2}, {0, 40, 20, 1}}};
        for (int i = 0; i < handlers.length; i++) {
            MachineWitness x = with(act(58, 0, 20, 0), act(63, 0, 0, 0), act(0, 0, 2, 0));
            for (int[] h : handlers[i]) {
                x.handler(0, h[0], h[1], h[2], h[3]);
            }
            due("case " + i, startAndTurn(x, 500), 0);
            due("the first that fits leads to PLACE 1, case " + i, x.number(0, 0), 0);
        }
    }

    /** "it goes on at its PLACE", where there may be no ACT. */
    private static void handlersPlaceBehindTheLastAct() {
        for (int place : new int[] {1, 39}) {
            MachineWitness x = with(act(58, 0, 20, 0));
            x.handler(0, 0, 1, 20, place);
            due("to PLACE " + place, startAndTurn(x, 1), 0);
            told("taken", x, 0, 0, 1, 20, 0, 0, 0, -1, 0);
        }
        MachineWitness x = with(act(62, 1, 0, 0), act(0, 0, 5, 0));
        addTo(x, 1, act(58, 0, 20, 0));
        x.handler(1, 0, 40, -1, 39);
        due("in one that was CALLED", startAndTurn(x, 2), 1);
        due("that has ended", x.told(0, 5), 1);
        due("it goes on behind the CALL", x.turn(0, 1), 0);
        due("it goes on behind the CALL", x.number(0, 0), 5);
    }

    /** "N 7 becomes the FAILURE", if a HANDLER takes it. */
    private static void number7BecomesTheFailure() {
        for (int[] f : FAILS) {
            Bench w = Bench.furnished();
            handled(w, f, f[0]);
            due("taken", w.x.number(0, 7), f[0]);
            Bench v = Bench.furnished();
            handled(v, f);
            due("not taken", v.x.number(0, 7), 99);
        }
    }

    /** "else the PROGRAM ends, and its CALL (62) FAILS by that in the one that CALLED it". */
    private static void callFailsInTheOneThatCalled() {
        int[][] handlers = {{0, 1, 20, 0}, {1, 2, 20, 1}, {1, 2, -1, 1}, {1, 2, 21, 0}, {2, 3, 20, 0}, {0, 40, 20, 1}};
        for (int[] h : handlers) {
            MachineWitness x = with(act(0, 0, 1, 0), act(62, 1, 0, 0), act(0, 0, 2, 0), act(0, 1, 3, 0));
            addTo(x, 1, act(0, 2, 1, 0), act(0, 2, 2, 0), act(0, 2, 3, 0), act(58, 0, 20, 0));
            x.handler(0, h[0], h[1], h[2], 3);
            String call = "a HANDLER from " + h[0] + " to " + h[1] + " of " + h[2];
            due(call, startAndTurn(x, 500), h[3] == 1 ? 0 : endBy(20));
            due(call + ": PLACE 2", x.number(0, 0), 1);
            due(call + ": PLACE 3", x.number(0, 1), h[3] == 1 ? 3 : 0);
            due(call + ": N 7", x.number(0, 7), h[3] == 1 ? 20 : 0);
            due(call + ": one FAILURE", x.told(0, 1), 1);
            due(call + ": its PROGRAM", x.told(0, 3), 1);
            due(call + ": its PLACE", x.told(0, 4), 3);
        }
    }

    /** "with none the THREAD ends by it": through all eight. */
    private static void callFailsThroughAllEight() {
        for (int taken = 0; taken < 2; taken++) {
            MachineWitness x = with(act(0, 0, 1, 0), act(62, 1, 0, 0), act(0, 1, 5, 0));
            addTo(x, 1, act(3, 2, 0, 0), act(0, 3, 7, 0), act(4, 3, 1, 2), act(60, 5, 3, 0), act(62, 1, 0, 0), act(58, 0, 29, 0));
            if (taken == 1) {
                x.handler(0, 1, 2, 29, 2);
            }
            x.start(0, 0);
            // CALL by CALL down to eight, where 58 FAILS.
            due("all eight", x.turn(0, 2 + 6 * 5 + 4), 1);
            due("all eight", x.told(0, 5), 8);
            due("29", x.turn(0, 1), taken == 1 ? 1 : endBy(29));
            told("29", x, 0, 36, 1, 29, 1, 5, taken, -1, taken);
            due("N 7", x.number(0, 7), taken == 1 ? 29 : 0);
        }
    }

    /** A HANDLER of another PROGRAM takes nothing. */
    private static void handlersAreOfTheirProgram() {
        MachineWitness x = with(act(58, 0, 20, 0));
        for (int p = 1; p < 6; p++) {
            x.handler(p, 0, 40, -1, 0);
        }
        due("of PROGRAM 0 there is none", startAndTurn(x, 5), endBy(20));
        MachineWitness y = with(act(62, 1, 0, 0));
        addTo(y, 1, act(0, 0, 1, 0));
        addTo(y, 1, act(58, 0, 20, 0));
        y.handler(0, 1, 40, -1, 0);
        due("the PLACE is the CALL's", startAndTurn(y, 500), endBy(20));
    }

    /** "TURNS of a THREAD: n ACTS at most". */
    private static void turnsOfSome() {
        for (int n : new int[] {1, 2, 499, 500}) {
            MachineWitness x = with(act(0, 1, 1, 0), act(3, 0, 0, 1), act(59, 1, 0, 0));
            due("turn of " + n, startAndTurn(x, n), 1);
            due("ACTS", x.told(0, 0), n);
            due("sums", x.number(0, 0), n / 2);
        }
        MachineWitness x = with(act(0, 0, 1, 0), act(0, 0, 2, 0), act(0, 0, 3, 0));
        due("two of three", startAndTurn(x, 2), 1);
        due("500 of one", x.turn(0, 500), 0);
        due("no more", x.told(0, 0), 3);
        MachineWitness y = with(act(62, 1, 0, 0), act(62, 1, 0, 0));
        addTo(y, 1, act(0, 0, 1, 0));
        due("a CALL is an ACT", startAndTurn(y, 3), 1);
        due("in the second", y.told(0, 5), 2);
        due("the last", y.turn(0, 1), 0);
    }

    /** "(those that FAILED too ..)". */
    private static void failedActsCount() {
        MachineWitness x = with(act(58, 0, 20, 0), act(58, 0, 21, 0), act(0, 0, 5, 0));
        x.handler(0, 0, 1, -1, 1);
        x.handler(0, 1, 2, -1, 2);
        due("two FAILED", startAndTurn(x, 2), 1);
        told("two FAILED", x, 0, 0, 2, 21, 0, 1, 1, -1, 1);
        due("not the third", x.number(0, 0), 0);
        due("the third", x.turn(0, 1), 0);
    }

    /** A FAILURE and a HANDLER that leads back to it. */
    private static MachineWitness failing() {
        MachineWitness x = with(act(58, 0, 20, 0));
        x.handler(0, 0, 1, 20, 0);
        return x;
    }

    /** "SPENT (11): the 21st FAILURE of one turn()". */
    private static void spentAtThe21st() {
        MachineWitness x = failing();
        due("20 FAILURES", startAndTurn(x, 20), 1);
        told("20 FAILURES", x, 0, 0, 20, 20, 0, 0, 1, -1, 1);
        MachineWitness y = failing();
        due("21 FAILURES", startAndTurn(y, 21), endBy(SPENT));
        told("21 FAILURES", y, 0, 0, 21, SPENT, 0, 0, 0, -1, 0);
        due("N 7 is of the 20th", y.number(0, 7), 20);
        MachineWitness z = failing();
        due("500 ACTS, but 21 FAILURES", startAndTurn(z, 500), endBy(SPENT));
        due("no more than 21", z.told(0, 1), 21);
    }

    /** "of one turn()": the next counts anew, and so does another THREAD. */
    private static void spentOfOneTurn() {
        MachineWitness x = failing();
        due("20", startAndTurn(x, 20), 1);
        for (int i = 2; i <= 5; i++) {
            due("20 more", x.turn(0, 20), 1);
            due("FAILURES ever", x.told(0, 1), 20 * i);
        }
        x.start(1, 0);
        due("20 of another", x.turn(1, 20), 1);
        due("21 of another", x.turn(1, 21), endBy(SPENT));
        due("the first goes on", x.turn(0, 20), 1);
        due("21", x.turn(0, 21), endBy(SPENT));
        due("started again it counts anew", startAndTurn(x, 20), 1);
    }

    /** "(CALLS that FAIL count none)". */
    private static void spentCountsNoCalls() {
        MachineWitness x = with(act(62, 1, 0, 0));
        addTo(x, 1, act(62, 2, 0, 0));
        addTo(x, 2, act(62, 3, 0, 0));
        addTo(x, 3, act(58, 0, 25, 0));
        x.handler(0, 0, 1, -1, 0);
        due("20 rounds of three CALLS and a FAILURE", startAndTurn(x, 80), 1);
        due("20 FAILURES", x.told(0, 1), 20);
        told("at the last", x, 0, 60, 20, 25, 3, 0, 1, -1, 1);
        due("20 rounds more", x.turn(0, 80), 1);
        due("and 21", x.turn(0, 84), endBy(SPENT));
        told("SPENT", x, 0, 60 + 60 + 63, 61, SPENT, 3, 0, 0, -1, 0);
    }

    /** "the THREAD ends by that, whatever HANDLERS there are". */
    private static void spentWhateverHandlers() {
        MachineWitness x = with(act(62, 1, 0, 0), act(59, 1, 0, 0));
        addTo(x, 1, act(58, 0, 25, 0));
        x.handler(1, 0, 40, -1, 0);
        x.handler(0, 0, 40, -1, 1);
        due("one CALL and 20 FAILURES", startAndTurn(x, 21), 1);
        due("one more, in the next", x.turn(0, 1), 1);
        due("PROGRAMS", x.told(0, 5), 2);
        due("21 in one", x.turn(0, 500), endBy(SPENT));
        told("SPENT", x, 0, 1, 42, SPENT, 1, 0, 0, -1, 0);
        due("N 7", x.number(0, 7), 25);
    }

    /** The 21st is SPENT even if nothing would have taken it. */
    private static void spentIsNotAnOrdinaryEnd() {
        MachineWitness x = with(act(0, 1, 1, 0), act(3, 0, 0, 1), act(0, 2, 20, 0), act(3, 2, 1, 0), act(60, 6, 2, 2),
            act(58, 0, 20, 0), act(58, 0, 21, 0));
        x.handler(0, 5, 6, 20, 1);
        // 20 rounds by 20, and then 21, for which there is no HANDLER.
        due("the 21st", startAndTurn(x, 500), endBy(SPENT));
        told("the 21st", x, 0, 1 + 21 * 4, 21, SPENT, 0, 6, 0, -1, 0);
    }

    /** "A THREAD that ends lets go all that it LOCKS": by its last ACT, by a FAILURE, by SPENT. */
    private static void endLetsGo() {
        int[] lasts = {0, 20, SPENT};
        for (int last : lasts) {
            MachineWitness x = with(act(18, 0, 0, 0), act(14, 1, 4, 0), act(64, 0, 0, 0), act(64, 0, 1, 0), act(64, 0, 1, 0),
                last == 0 ? act(63, 0, 0, 0) : act(58, 0, 20, 0));
            if (last == SPENT) {
                x.handler(0, 5, 6, 20, 5);
            }
            due("LOCKED", startAndTurn(x, 5), 1);
            due("LOCKED twice", x.thing(1, 3), 2);
            due("the end", x.turn(0, 21), last == 0 ? 0 : endBy(last));
            for (int t = 0; t < 2; t++) {
                due("nobody has it", x.thing(t, 2), -1);
                due("not once", x.thing(t, 3), 0);
            }
        }
    }

    /** "its registers stay". */
    private static void registersStay() {
        MachineWitness x = with(act(0, 6, 5, 0), act(1, 3, 5, 0), act(2, 3, 5, 0), act(18, 7, 0, 0), act(58, 0, 20, 0));
        for (int round = 0; round < 2; round++) {
            due("it ends", startAndTurn(x, 500), endBy(20));
            due("NUMBER", x.number(0, 6), 5);
            due("DOUBLE", x.real(0, 3), bits(5.0));
            due("FLOAT", x.small(0, 3), bits(5.0f));
            due("HOLD", x.hold(0, 7), round);
            due("start leaves them, too", x.start(0, 5), 1);
            due("NUMBER", x.number(0, 6), 5);
            due("HOLD", x.hold(0, 7), round);
            due("an empty PROGRAM", x.turn(0, 1), 0);
        }
    }
}
