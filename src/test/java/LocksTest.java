/** Ops 64 and 65, WAITS, ring. Promises 6, 11, 12, 15. */
public final class LocksTest {
    private static final Due DUE = new Due();
    private static final int NULL = -11, OWNER = -17;

    public static void main(String[] args) {
        lockAndLetGo();
        refused();
        noGifts();
        endOfAProgram();
        endLetsGo();
        if (Gift.works()) {
            anothersLock();
            waits();
            waitsAreNoActs();
            ringOfTwo();
            ringOfThree();
            ringBesideIt();
        } else {
            System.out.println("skipped: WAITING, as no THING can be laid into a HOLD here");
        }
        DUE.finish();
    }

    private static void due(String call, long got, long want) {
        DUE.due(call, got, want);
    }

    /** THINGS 0, 1 and 2, NODES, in the HOLDS 0, 1 and 2 of THREAD 0. */
    private static MachineWitness three() {
        MachineWitness x = new MachineWitness();
        for (int k = 0; k < 3; k++) {
            x.act(5, 18, k, 0, 0);
        }
        x.start(0, 5);
        x.turn(0, 500);
        return x;
    }

    /** The same, in those HOLDS of all THREADS. */
    private static MachineWitness threeForAll() {
        MachineWitness x = three();
        for (int t = 1; t < 3; t++) {
            for (int k = 0; k < 3; k++) {
                Gift.lay(x, t, k, k);
            }
        }
        return x;
    }

    private static void lockAndLetGo() {
        MachineWitness x = three();
        x.act(0, 64, -1, 0, -1);
        x.act(0, 64, 0, 0, 0);
        x.act(0, 65, -1, 0, -1);
        x.act(0, 65, 0, 0, 0);
        x.act(0, 65, 0, 0, 0);
        x.start(0, 0);
        int[][] want = {{0, 1}, {0, 2}, {0, 1}, {-1, 0}};
        for (int[] w : want) {
            due("turn", x.turn(0, 1), 1);
            due("the THREAD", x.thing(0, 2), w[0]);
            due("how often", x.thing(0, 3), w[1]);
        }
        due("no more", x.turn(0, 1), OWNER);
        due("nothing is changed", x.thing(0, 3), 0);
        due("OWNER", x.told(0, 2), 7);
    }

    private static void refused() {
        MachineWitness x = three();
        x.act(0, 64, 0, 7, 0);
        x.act(1, 65, 0, 7, 0);
        x.act(2, 65, 0, 0, 0);
        x.start(0, 0);
        due("64 of none", x.turn(0, 1), NULL);
        x.start(0, 1);
        due("65 of none", x.turn(0, 1), NULL);
        x.start(0, 2);
        due("65 of one that nobody has", x.turn(0, 1), OWNER);
    }

    private static void anothersLock() {
        MachineWitness x = threeForAll();
        x.act(2, 65, 0, 0, 0);
        x.act(3, 64, 0, 0, 0);
        x.act(3, 59, 1, 0, 0);
        x.start(1, 3);
        x.turn(1, 1);
        x.start(0, 2);
        due("65 of one that another has", x.turn(0, 1), OWNER);
        due("it has it still", x.thing(0, 2), 1);
        due("once", x.thing(0, 3), 1);
    }

    private static void noGifts() {
        MachineWitness x = new MachineWitness();
        x.act(0, 18, 0, 0, 0);
        x.act(1, 64, 0, 0, 0);
        x.start(0, 0);
        x.turn(0, 1);
        x.start(1, 1);
        due("THREAD 1 has none in its own HOLD 0", x.turn(1, 1), NULL);
    }

    /** PROGRAM 0: LOCKS 0, then 1, lets 1 go, then 0. PROGRAM 1: LOCKS 1, then 0. */
    private static MachineWitness crossed() {
        MachineWitness x = threeForAll();
        x.act(0, 64, 0, 0, 0);
        x.act(0, 64, 0, 1, 0);
        x.act(0, 65, 0, 1, 0);
        x.act(0, 65, 0, 0, 0);
        x.act(0, 0, 0, 1, 0);
        x.act(1, 64, 0, 1, 0);
        x.act(1, 64, 0, 0, 0);
        x.act(1, 0, 0, 1, 0);
        return x;
    }

    private static void waits() {
        MachineWitness x = crossed();
        x.start(0, 0);
        x.start(1, 1);
        due("LOCKS 0 and 1", x.turn(0, 2), 1);
        due("WAITS for 1", x.turn(1, 5), 2);
        due("for 1", x.told(1, 6), 1);
        due("no ACT", x.told(1, 0), 0);
        due("under way", x.told(1, 7), 1);
        due("WAITS still", x.turn(1, 5), 2);
        due("lets 1 go", x.turn(0, 1), 1);
        due("as its latest turn() left it", x.told(1, 6), 1);
        due("a refused turn() is none", x.turn(1, 0), -1);
        due("as its latest turn() left it", x.told(1, 6), 1);
        due("now WAITS for 0", x.turn(1, 5), 2);
        due("for 0", x.told(1, 6), 0);
        due("one ACT", x.told(1, 0), 1);
        due("it has 1", x.thing(1, 2), 1);
        due("lets 0 go, ends", x.turn(0, 5), 0);
        due("goes on", x.turn(1, 1), 1);
        due("WAITS for none", x.told(1, 6), -1);
        due("it has 0", x.thing(0, 2), 1);
        due("ends", x.turn(1, 1), 0);
        due("FAILURES", x.told(1, 1), 0);
        due("let go", x.thing(0, 2), -1);
        due("let go", x.thing(1, 2), -1);
    }

    private static void waitsAreNoActs() {
        MachineWitness x = crossed();
        x.start(0, 0);
        x.start(1, 1);
        x.turn(0, 1);
        due("one ACT, and no look at the next", x.turn(1, 1), 1);
        due("WAITS for none", x.told(1, 6), -1);
        due("WAITS", x.turn(1, 1), 2);
        due("for 0", x.told(1, 6), 0);
        due("one ACT", x.told(1, 0), 1);
    }

    private static void endOfAProgram() {
        MachineWitness x = three();
        x.act(0, 64, 0, 0, 0);
        x.act(0, 62, 1, 0, 0);
        x.act(0, 0, 0, 1, 0);
        x.act(1, 64, 0, 0, 0);
        x.act(1, 63, 0, 0, 0);
        x.start(0, 0);
        due("once more in another PROGRAM", x.turn(0, 3), 1);
        due("twice", x.thing(0, 3), 2);
        due("a PROGRAM's end", x.turn(0, 1), 1);
        due("lets nothing go", x.thing(0, 3), 2);
        due("the THREAD's end", x.turn(0, 1), 0);
        due("does", x.thing(0, 3), 0);
    }

    private static void endLetsGo() {
        MachineWitness x = three();
        x.act(0, 64, 0, 0, 0);
        x.act(0, 64, 0, 1, 0);
        x.act(0, 64, 0, 1, 0);
        x.act(0, 58, 0, 20, 0);
        x.act(1, 18, 0, 0, 0);
        x.act(1, 64, 0, 0, 0);
        x.act(1, 59, 2, 0, 0);
        x.start(2, 1);
        x.turn(2, 3);
        x.start(0, 0);
        due("3", x.turn(0, 3), 1);
        due("how often", x.thing(1, 3), 2);
        due("it ends by 20", x.turn(0, 3), -30);
        for (int t = 0; t < 4; t++) {
            due("let go, but for another's", x.thing(t, 2), t == 3 ? 2 : -1);
            due("let go, but for another's", x.thing(t, 3), t == 3 ? 1 : 0);
        }
    }

    private static void ringOfTwo() {
        MachineWitness x = crossed();
        x.start(0, 0);
        x.start(1, 1);
        x.turn(0, 1);
        x.turn(1, 1);
        due("none WAITS", x.ring(0), 0);
        due("WAITS", x.turn(0, 1), 2);
        due("one WAITS", x.ring(0), 0);
        due("the other does not", x.ring(1), 0);
        due("WAITS", x.turn(1, 1), 2);
        due("both WAIT", x.ring(0), 1);
        due("both WAIT", x.ring(1), 1);
        due("the third does not", x.ring(2), 0);
        due("it stays so", x.turn(0, 500), 2);
        due("both WAIT", x.ring(0), 1);
    }

    /** THREAD t LOCKS t and then t + 1. */
    private static void ringOfThree() {
        MachineWitness x = threeForAll();
        for (int t = 0; t < 3; t++) {
            x.act(t, 64, 0, t, 0);
            x.act(t, 64, 0, (t + 1) % 3, 0);
            x.start(t, t);
            x.turn(t, 1);
        }
        for (int t = 0; t < 3; t++) {
            due("no ring yet", x.ring(t), 0);
            due("WAITS", x.turn(t, 1), 2);
        }
        for (int t = 0; t < 3; t++) {
            due("a ring of three", x.ring(t), 1);
        }
    }

    /** THREADS 0 and 1 WAIT for each other, THREAD 2 for 0. */
    private static void ringBesideIt() {
        MachineWitness x = crossed();
        x.act(2, 64, 0, 0, 0);
        x.start(0, 0);
        x.start(1, 1);
        x.start(2, 2);
        x.turn(0, 1);
        x.turn(1, 1);
        x.turn(0, 1);
        x.turn(1, 1);
        due("WAITS", x.turn(2, 1), 2);
        due("not in the ring", x.ring(2), 0);
        due("in the ring", x.ring(0), 1);
        due("in the ring", x.ring(1), 1);
        due("clear", x.clear(), 3);
        due("no ring", x.ring(0), 0);
        due("BAD", x.ring(-1), -1);
        due("BAD", x.ring(3), -1);
    }
}
