/** The document's Terms: refusals, FAILURES, and which comes first. */
public final class EdgesOfTermsTest extends Edges {
    private interface Call {
        int on(MachineWitness x);
    }

    public static void main(String[] args) {
        badBeforeState();
        badBeforeFull();
        refusedCallsChangeNothing();
        refusedHandlersChangeNothing();
        questionsChangeNothing();
        failedActsChangeNothing();
        failedActsChangeNothingInFullRoom();
        failedLocksChangeNothing();
        bodiesBegunAreTraced();
        noneMayBeTakenAsAll();
        castIsFirst();
        nullIsNext();
        othersAsTold();
        DUE.finish();
    }

    /** THREAD 0 is under way, behind the first of two ACTS, with a THING; all PROGRAMS but 0 are empty. */
    private static MachineWitness midway() {
        MachineWitness x = new MachineWitness();
        x.act(0, 18, 0, 3, 0);
        x.act(0, 64, 0, 0, 0);
        x.act(0, 0, 0, 5, 0);
        x.act(0, 59, 2, 0, 0);
        x.start(0, 0);
        x.turn(0, 3);
        return x;
    }

    /** PROGRAM 0 has 40 ACTS and 6 HANDLERS. */
    private static MachineWitness full() {
        MachineWitness x = new MachineWitness();
        for (int i = 0; i < 40; i++) {
            x.act(0, 0, 0, i, 0);
        }
        for (int i = 0; i < 6; i++) {
            x.handler(0, 0, 40, -1, 0);
        }
        return x;
    }

    /** "Of several refusals the first: BAD (..), STATE (..)". */
    private static void badBeforeState() {
        due("start of a bad PROGRAM, under way", midway().start(0, 6), -1);
        due("start of a bad PROGRAM below 0, under way", midway().start(0, -1), -1);
        due("start, under way", midway().start(0, 0), -2);
        due("empty of a bad PROGRAM, one under way", midway().empty(6), -1);
        due("empty, one under way", midway().empty(5), -2);
        due("turn of 0 ACTS, not under way", midway().turn(1, 0), -1);
        due("turn of 501 ACTS, not under way", midway().turn(1, 501), -1);
        due("turn, not under way", midway().turn(1, 500), -2);
    }

    /** "Of several refusals the first: BAD (..), .. FULL (-3)." */
    private static void badBeforeFull() {
        due("a bad ACT, full", full().act(0, 19, 0, 0, 0), -1);
        due("an ACT, full", full().act(0, 0, 0, 0, 0), -3);
        due("a bad HANDLER, full", full().handler(0, 0, 40, 11, 0), -1);
        due("a HANDLER, full", full().handler(0, 0, 40, 10, 0), -3);
    }

    private static void refused(String call, int want, MachineWitness x, Call refused) {
        String before = State.ofAll(x);
        due(call, refused.on(x), want);
        dueSame(call + " changes nothing", State.ofAll(x), before);
    }

    /** "They change nothing." */
    private static void refusedCallsChangeNothing() {
        refused("act", -1, midway(), x -> x.act(0, 66, 0, 0, 0));
        refused("act", -1, midway(), x -> x.act(6, 0, 0, 0, 0));
        refused("act", -1, midway(), x -> x.act(1, 0, 8, 0, 0));
        refused("act", -3, full(), x -> x.act(0, 0, 0, 0, 0));
        refused("empty", -1, full(), x -> x.empty(6));
        refused("empty", -2, midway(), x -> x.empty(0));
        refused("start", -1, midway(), x -> x.start(3, 0));
        refused("start", -1, midway(), x -> x.start(1, 6));
        refused("start", -2, midway(), x -> x.start(0, 1));
        refused("turn", -1, midway(), x -> x.turn(0, 0));
        refused("turn", -1, midway(), x -> x.turn(0, 501));
        refused("turn", -1, midway(), x -> x.turn(3, 1));
        refused("turn", -2, midway(), x -> x.turn(1, 1));
        MachineWitness x = midway();
        x.start(0, 1);
        x.turn(0, 1);
        due("after a refused start it goes on where it was", x.told(0, 0), 4);
        x.turn(0, 1);
        due("in its own PROGRAM", x.number(0, 0), 5);
        MachineWitness y = full();
        y.act(0, 58, 0, 20, 0);
        y.start(0, 0);
        due("after a refused act the ACTS are the same", y.turn(0, 40), 0);
        due("all 40", y.number(0, 0), 39);
    }

    /** The same of HANDLERS, for which there is no question. */
    private static void refusedHandlersChangeNothing() {
        MachineWitness x = new MachineWitness();
        x.act(0, 58, 0, 20, 0);
        x.handler(0, 1, 1, -1, 39);
        x.handler(0, 0, 41, -1, 39);
        x.handler(0, 0, 40, 0, 39);
        x.handler(0, 0, 40, -1, 40);
        x.start(0, 0);
        due("no HANDLER is there", x.turn(0, 5), endBy(20));
        due("this is the first", x.handler(0, 0, 1, 21, 39), 1);
        for (int i = 2; i <= 6; i++) {
            due("a HANDLER", x.handler(0, 0, 1, 21, 39), i);
        }
        due("FULL", x.handler(0, 0, 1, 20, 39), -3);
        x.start(0, 0);
        due("the seventh is not there", x.turn(0, 5), endBy(20));
    }

    private static void questionsChangeNothing() {
        MachineWitness x = midway();
        String before = State.ofAll(x);
        int[] edges = {LEAST, -1, 9, GREATEST};
        for (int k : edges) {
            x.number(0, k);
            x.real(0, k);
            x.small(0, k);
            x.hold(0, k);
            x.told(0, k);
            x.thing(0, k);
            x.item(0, k);
            x.field(0, k);
            x.ring(k);
            x.count(k);
        }
        dueSame("questions change nothing", State.ofAll(x), before);
    }

    /** The FAILURE, then an ACT that FAILS so on a furnished Bench. */
    private static final int[][] FAILS = {
        {ZERO, 3, 1, 3, 0}, {ZERO, 3, 1, 4, 0}, {ZERO, 4, 1, 3, 0}, {ZERO, 4, 1, 4, 0},
        {ENDLESS, 5, 1, 0, 2}, {ENDLESS, 5, 1, 1, 1}, {ENDLESS, 5, 0, 2, 1}, {ENDLESS, 5, 0, 3, 0},
        {ENDLESS, 5, 1, 3, 2}, {ENDLESS, 5, 3, 4, 0}, {ENDLESS, 5, 1, 4, 3},
        {ENDLESS, 6, 1, 0, 2}, {ENDLESS, 6, 1, 1, 1}, {ENDLESS, 6, 0, 2, 1}, {ENDLESS, 6, 0, 3, 0},
        {ENDLESS, 6, 1, 3, 2}, {ENDLESS, 6, 3, 4, 0}, {ENDLESS, 6, 1, 4, 3},
        {ROOM, 14, 2, 4, 4}, {SIZE, 14, 2, 4, 3}, {ROOM, 15, 2, 4, 4}, {SIZE, 15, 2, 4, 3},
        {ROOM, 16, 2, 5, 1}, {ROOM, 16, 2, 1, 4}, {SIZE, 16, 2, 3, 1}, {SIZE, 16, 2, 1, 3},
        {ROOM, 17, 2, 5, 1}, {ROOM, 17, 2, 1, 4}, {SIZE, 17, 2, 3, 1}, {SIZE, 17, 2, 1, 3},
        {CAST, 20, 1, 0, 1}, {CAST, 21, 1, 0, 1}, {CAST, 22, 1, 0, 1}, {CAST, 23, 1, 0, 1}, {CAST, 24, 1, 6, 1},
        {CAST, 25, 1, 0, 1}, {CAST, 26, 1, 0, 1}, {CAST, 27, 1, 0, 1}, {NULL, 24, 1, 7, 1}, {NULL, 27, 1, 7, 1},
        {INDEX, 24, 1, 0, 2}, {INDEX, 24, 1, 0, 3}, {INDEX, 27, 1, 6, 2}, {INDEX, 27, 1, 6, 3},
        {CAST, 28, 1, 0, 1}, {CAST, 29, 1, 0, 1}, {CAST, 30, 1, 0, 1}, {CAST, 31, 1, 0, 1}, {CAST, 32, 1, 6, 1},
        {CAST, 33, 1, 0, 1}, {CAST, 34, 3, 0, 1}, {CAST, 35, 3, 0, 1}, {NULL, 32, 1, 7, 1}, {NULL, 35, 3, 7, 1},
        {INDEX, 32, 1, 0, 2}, {INDEX, 32, 1, 0, 3}, {INDEX, 35, 3, 6, 2}, {INDEX, 35, 3, 6, 3},
        {CAST, 36, 2, 0, 0}, {NULL, 36, 2, 7, 0}, {INDEX, 36, 2, 1, 2}, {INDEX, 36, 2, 1, 3},
        {CAST, 37, 2, 5, 0}, {NULL, 37, 2, 7, 0}, {INDEX, 37, 2, 4, 2}, {INDEX, 37, 2, 4, 3},
        {CAST, 38, 2, 4, 0}, {NULL, 38, 2, 7, 0}, {INDEX, 38, 2, 5, 2}, {INDEX, 38, 2, 5, 3},
        {CAST, 39, 0, 1, 0}, {CAST, 39, 2, 2, 0}, {NULL, 39, 2, 7, 0}, {INDEX, 39, 2, 1, 2}, {STORE, 39, 3, 1, 0},
        {CAST, 40, 6, 4, 0}, {CAST, 40, 0, 5, 0}, {NULL, 40, 0, 7, 0}, {INDEX, 40, 0, 4, 3},
        {CAST, 41, 0, 5, 0}, {CAST, 41, 6, 4, 0}, {NULL, 41, 6, 7, 0}, {INDEX, 41, 6, 5, 2},
        {NULL, 42, 1, 7, 0}, {KIND, 42, 1, 2, 0}, {NULL, 43, 1, 7, 0}, {KIND, 43, 1, 6, 0}, {INDEX, 43, 1, 0, 2},
        {NULL, 44, 1, 7, 0}, {KIND, 44, 1, 1, 0}, {INDEX, 44, 1, 6, 3},
        {NULL, 45, 1, 7, 0}, {KIND, 45, 1, 4, 0}, {INDEX, 45, 1, 6, 2},
        {NULL, 46, 7, 0, 0}, {NULL, 46, 0, 7, 0}, {STORE, 46, 0, 6, 0}, {INDEX, 46, 0, 0, 0},
        {NULL, 47, 2, 7, 0}, {CAST, 47, 1, 2, 0}, {CAST, 49, 1, 2, 20}, {CAST, 49, 1, 0, 24},
        {CAST, 51, 1, 0, 0}, {NULL, 51, 1, 0, 7}, {CAST, 51, 1, 7, 3}, {CAST, 51, 1, 8, 3}, {NULL, 51, 0, 3, 7},
        {CAST, 52, 1, 0, 0}, {NULL, 52, 1, 0, 7}, {CAST, 52, 1, 7, 3}, {CAST, 52, 1, 8, 3}, {CAST, 52, 0, 3, 2},
        {CAST, 52, 6, 4, 2}, {NULL, 52, 2, 3, 7}, {NULL, 52, 0, 4, 7},
        {CAST, 53, 1, 0, 1}, {NULL, 53, 1, 7, 1}, {CAST, 54, 1, 0, 0}, {NULL, 54, 1, 7, 0}, {CAST, 55, 1, 1, 0},
        {NULL, 55, 1, 7, 0}, {CAST, 56, 1, 3, 1}, {NULL, 56, 1, 7, 1}, {CAST, 57, 3, 2, 0}, {NULL, 57, 3, 7, 0},
        {20, 58, 0, 20, 0}, {29, 58, 0, 29, 0}, {NULL, 58, 0, -1, 0},
        {NULL, 64, 0, 7, 0}, {NULL, 65, 0, 7, 0}, {OWNER, 65, 0, 2, 0},
    };

    private static void fails(Bench w, int failure, int[] act) {
        String call = "act " + act[0] + ", " + act[1] + ", " + act[2] + ", " + act[3];
        String before = State.ofRegistersAndThings(w.x);
        int done = w.x.told(0, 0);
        int trace = w.x.trace();
        due(call, w.run(act), endBy(failure));
        dueSame(call + " changes nothing", State.ofRegistersAndThings(w.x), before);
        due(call + " is not done", w.x.told(0, 0), done);
        due(call + " begins no body", w.x.trace(), trace);
    }

    /** "An ACT that FAILS changes nothing". */
    private static void failedActsChangeNothing() {
        for (int[] f : FAILS) {
            fails(Bench.furnished(), f[0], act(f[1], f[2], f[3], f[4]));
        }
    }

    /** The same where 160 THINGS leave no room. */
    private static void failedActsChangeNothingInFullRoom() {
        int[][] makes = {act(14, 0, 4, 6), act(15, 0, 4, 6), act(16, 0, 6, 6), act(17, 0, 6, 6), act(18, 0, 4, 0),
            act(47, 0, 1, 0)};
        for (int[] make : makes) {
            Bench w = new Bench();
            w.run(act(14, 1, 4, 0));
            w.fill(160);
            String call = "act " + make[0] + " in a full room";
            due(call, w.run(make), endBy(ROOM));
            due(call + " makes nothing", w.x.count(0), 160);
            due(call + " changes no HOLD", w.x.hold(0, 0), -1);
        }
    }

    /** The same of LOCKS, which the end of a THREAD would let go. */
    private static void failedLocksChangeNothing() {
        MachineWitness x = new MachineWitness();
        x.act(0, 18, 0, 0, 0);
        x.act(0, 18, 1, 0, 0);
        x.act(0, 64, 0, 0, 0);
        x.act(0, 64, 0, 0, 0);
        x.act(0, 65, 0, 1, 0);
        x.act(0, 64, 0, 7, 0);
        x.act(0, 65, 0, 7, 0);
        x.act(0, 59, 7, 0, 0);
        x.handler(0, 4, 5, OWNER, 5);
        x.handler(0, 5, 6, NULL, 6);
        x.handler(0, 6, 7, NULL, 7);
        x.start(0, 0);
        for (int n = 4; n <= 7; n++) {
            due("turn", x.turn(0, n == 4 ? 4 : 1), 1);
            due("the THREAD", x.thing(0, 2), 0);
            due("how often", x.thing(0, 3), 2);
            due("nobody has the other", x.thing(1, 2), -1);
            due("not once", x.thing(1, 3), 0);
        }
        due("three FAILED", x.told(0, 1), 3);
    }

    /** "(but THE TRACE, by bodies that were begun)". */
    private static void bodiesBegunAreTraced() {
        Bench w = Bench.furnished();
        w.run(act(53, 6, 2, 0));
        int trace = w.x.trace();
        String before = State.ofRegistersAndThings(w.x);
        due("MEASURE of a STONE whose x is endless", w.run(act(54, 3, 3, 0)), endBy(ENDLESS));
        dueSame("it changes nothing", State.ofRegistersAndThings(w.x), before);
        due("but THE TRACE", w.x.trace(), 31 * trace + 8);
    }

    /** "none may be TAKEN as all". */
    private static void noneMayBeTakenAsAll() {
        for (int kind = 0; kind < 26; kind++) {
            if (kind != 15) {
                Bench w = Bench.furnished();
                due("none as kind " + kind, w.run(act(49, 0, 7, kind)), 0);
                due("it is none", w.x.hold(0, 0), -1);
            }
        }
        Bench w = Bench.furnished();
        due("none as a NODE in a ROW", w.run(act(39, 7, 1, 0)), 0);
        due("none as a ROW of ints in a ROW", w.run(act(40, 7, 4, 0)), 0);
        due("none as a ROW of doubles in a ROW", w.run(act(41, 7, 5, 0)), 0);
        due("none as a NODE in NEXT", w.run(act(52, 7, 3, 2)), 0);
        due("none as a ROW of ints in LINE", w.run(act(52, 7, 4, 2)), 0);
        due("none is there", w.x.item(4, 0), -1);
        due("none is there", w.x.item(7, 0), -1);
    }

    private static void failsFirst(String call, int failure, int op, int a, int b, int c) {
        due(call, Bench.furnished().run(act(op, a, b, c)), endBy(failure));
    }

    /** "Where several fit: first CAST". */
    private static void castIsFirst() {
        for (int k = 0; k < 8; k++) {
            failsFirst("CAST, INDEX", CAST, 20 + k, 1, 2, 2);
            failsFirst("CAST, INDEX", CAST, 28 + k, 1, 2, 2);
        }
        for (int op = 36; op <= 38; op++) {
            failsFirst("CAST, INDEX", CAST, op, 1, 2, 3);
        }
        int[] wrong = {0, 6, 0};
        for (int i = 0; i < 3; i++) {
            failsFirst("T a CAST, T b NULL", CAST, 39 + i, wrong[i], 7, 0);
            failsFirst("T a none, T b CAST", CAST, 39 + i, 7, 2, 0);
            failsFirst("T a CAST, INDEX", CAST, 39 + i, wrong[i], i == 0 ? 1 : 3 + i, 2);
            failsFirst("both CAST", CAST, 39 + i, wrong[i], 2, 2);
        }
        failsFirst("NEXT of none: CAST, NULL", CAST, 52, 0, 3, 7);
        failsFirst("LINE of none: CAST, NULL", CAST, 52, 2, 4, 7);
        failsFirst("NEXT of a ROW", CAST, 52, 7, 3, 0);
        Bench w = Bench.furnished();
        w.fill(160);
        due("47: CAST, ROOM", w.run(act(47, 0, 2, 0)), endBy(CAST));
    }

    /** "then NULL (none is used)". */
    private static void nullIsNext() {
        for (int k = 0; k < 8; k++) {
            failsFirst("NULL, INDEX", NULL, 20 + k, 1, 7, 3);
            failsFirst("NULL, INDEX", NULL, 28 + k, 1, 7, 3);
        }
        for (int op = 36; op <= 38; op++) {
            failsFirst("NULL, INDEX", NULL, op, 1, 7, 3);
        }
        failsFirst("39 into none, of a STONE", NULL, 39, 3, 7, 3);
        failsFirst("40 into none, INDEX", NULL, 40, 0, 7, 3);
        failsFirst("41 into none, INDEX", NULL, 41, 6, 7, 3);
        for (int op = 43; op <= 45; op++) {
            failsFirst("NULL, INDEX", NULL, op, 1, 7, 3);
        }
        failsFirst("46 from none: NULL, STORE, INDEX", NULL, 46, 7, 2, 0);
        failsFirst("46 to none: NULL, STORE, INDEX", NULL, 46, 2, 7, 0);
        failsFirst("46 of none to none", NULL, 46, 7, 7, 0);
        failsFirst("65: NULL, OWNER", NULL, 65, 0, 7, 0);
        Bench w = new Bench();
        w.fill(160);
        due("47: NULL, ROOM", w.run(act(47, 0, 1, 0)), endBy(NULL));
    }

    /** "then the others as told". */
    private static void othersAsTold() {
        failsFirst("39: INDEX, STORE", INDEX, 39, 3, 1, 2);
        failsFirst("43: KIND, INDEX", KIND, 43, 1, 6, 3);
        failsFirst("44: KIND, INDEX", KIND, 44, 1, 1, 3);
        failsFirst("45: KIND, INDEX", KIND, 45, 1, 1, 3);
        failsFirst("46: STORE, INDEX", STORE, 46, 0, 6, 0);
        failsFirst("16: too many ITEMS, SIZE", ROOM, 16, 0, 3, 4);
        failsFirst("16: too many ROWS, SIZE", ROOM, 16, 0, 5, 3);
        failsFirst("17: too many ITEMS, SIZE", ROOM, 17, 0, 3, 4);
        failsFirst("17: too many ROWS, SIZE", ROOM, 17, 0, 5, 3);
        int[][] makes = {act(14, 0, 4, 5), act(15, 0, 4, 5), act(16, 0, 6, 5), act(17, 0, 6, 5), act(16, 0, 5, 6)};
        for (int[] make : makes) {
            Bench w = new Bench();
            w.fill(160);
            w.run(act(0, 5, -1, 0), act(0, 6, 0, 0));
            due(make[0] + ": no room for THINGS, SIZE", w.run(make), endBy(ROOM));
        }
    }
}
