import java.util.Random;

/**
 * Chance runs, from fixed seeds, on the class and on the Oracle: every answer must agree, and so must
 * what is asked in between and at the end, up to the 512th call. All promises; here the ops meet one
 * another.
 */
public final class OracleTest {
    private static final int CALLS = 512;
    private static final Due DUE = new Due();
    private static final int[] REACHED = new int[66];
    private static final int[] FAILED = new int[30];
    private static final boolean GIFTS = Gift.works();
    private static int waited = 0;
    private static int rings = 0;

    private final Random chance;
    private final String run;
    private final MachineWitness x = new MachineWitness();
    private final Oracle o = new Oracle();
    private final int flavour;
    private int left = CALLS;

    private OracleTest(long seed) {
        chance = new Random(seed);
        run = "seed " + seed + ": ";
        flavour = (int) (seed % 4);
    }

    public static void main(String[] args) {
        int runs = args.length > 0 ? Integer.parseInt(args[0]) : 8000;
        for (long seed = 1; seed <= runs && DUE.wrong() < 20; seed++) {
            new OracleTest(seed).go();
        }
        for (int f : new int[] {1, 2, 3, 4, 5, 6, 7, 8, 9, 10, 11, 20, 29}) {
            DUE.due("FAILURE " + f + " came about", FAILED[f] > 0 ? 1 : 0, 1);
        }
        for (int op = 0; op < 66; op++) {
            DUE.due("op " + op + " was taken", REACHED[op] > 0 ? 1 : 0, op == 19 ? 0 : 1);
        }
        if (GIFTS) {
            DUE.due("some WAITED", waited > 0 ? 1 : 0, 1);
            DUE.due("some in a ring", rings > 0 ? 1 : 0, 1);
        } else {
            System.out.println("skipped: WAITING, as no THING can be laid into a HOLD here");
        }
        System.out.println(waited + " times one WAITED, " + rings + " rings");
        DUE.finish();
    }

    /** got is what one call answered. */
    private void due(String call, long got, long want) {
        left--;
        DUE.due(run + call, got, want);
    }

    private int below(int n) {
        return chance.nextInt(n);
    }

    private void go() {
        int asked = 50 + below(flavour == 0 ? 150 : 350);
        while (left > asked && DUE.wrong() < 20) {
            if (flavour == 0) {
                wildCall();
            } else {
                shortProgram();
            }
            if (below(8) == 0) {
                ask();
            }
        }
        while (left > 0 && DUE.wrong() < 20) {
            ask();
        }
    }

    /** A few ACTS, run at once: what they do, more than where they lead. */
    private void shortProgram() {
        int p = below(6);
        int many = 1 + below(8);
        for (int i = 0; i < many; i++) {
            chanceAct(p);
        }
        if (below(2) == 0) {
            chanceHandler(p);
        }
        int th = below(3);
        due("start", x.start(th, p), o.start(th, p));
        int result = turn(th, below(8) == 0 ? 1 + below(500) : 1 + below(12));
        due("trace", x.trace(), o.trace());
        if (result == 1 || result == 2) {
            turn(th, 500);
        }
        due("empty", x.empty(p), o.empty(p));
        if (below(150) == 0) {
            due("clear", x.clear(), o.clear());
        }
    }

    private void wildCall() {
        int th = below(3);
        int p = below(6);
        switch (below(60)) {
            case 0:
                due("empty", x.empty(p), o.empty(p));
                break;
            case 1:
                if (below(12) == 0) {
                    due("clear", x.clear(), o.clear());
                }
                break;
            case 2:
                chanceHandler(p);
                break;
            case 3: case 4:
                lay();
                break;
            case 5: case 6: case 7: case 8: case 9: case 10:
                due("start", x.start(th, p), o.start(th, p));
                break;
            case 11: case 12: case 13: case 14: case 15: case 16: case 17: case 18: case 19: case 20:
                turn(th, below(4) == 0 ? 1 + below(500) : 1 + below(5));
                rings += o.ring(th);
                due("ring", x.ring(th), o.ring(th));
                break;
            default:
                chanceAct(p);
                break;
        }
    }

    /** The latest few THINGS go to all: else no THREAD would ever WAIT. */
    private void lay() {
        for (int i = 0; GIFTS && i < 9 && i / 3 < o.count(0); i++) {
            int t = o.count(0) - 1 - i / 3;
            Gift.lay(x, i % 3, 5 + i / 3, t);
            o.lay(i % 3, 5 + i / 3, t);
        }
    }

    private int turn(int th, int n) {
        int got = x.turn(th, n);
        waited += got == 2 ? 1 : 0;
        due("turn(" + th + ", " + n + ")", got, o.turn(th, n));
        FAILED[o.told(th, 2)]++;
        return got;
    }

    private void chanceHandler(int p) {
        int from = below(40);
        int to = from + 1 + below(40 - from);
        int failure = below(2) == 0 ? -1 : below(3) == 0 ? 20 + below(10) : 1 + below(10);
        int place = below(3) == 0 ? below(40) : below(10);
        if (below(3) == 0) {
            from = 0;
            to = 40;
        }
        int got = x.handler(p, from, to, failure, place);
        due("handler", got, got == -3 ? -3 : o.handler(p, from, to, failure, place));
    }

    private int chanceOp() {
        int w = below(100);
        if (flavour == 1) {
            return w < 70 ? below(12) : below(66);
        }
        if (flavour == 2) {
            return w < 25 ? 12 + below(7) : w < 85 ? 20 + below(31) : w < 92 ? 0 : below(66);
        }
        if (flavour == 3) {
            return w < 20 ? 18 : w < 80 ? 48 + below(10) : w < 90 ? below(3) : below(66);
        }
        return w < 30 ? 64 : w < 55 ? 58 + below(8) : w < 65 ? 18 : w < 80 ? below(12) : below(66);
    }

    private void chanceAct(int p) {
        int op = chanceOp();
        int a = below(8);
        int b = below(8);
        int c = below(8);
        if (op == 0) {
            b = below(6) == 0 ? chance.nextInt() : below(16) - 2;
        } else if (op == 1 || op == 2) {
            b = below(3) == 0 ? chance.nextInt() : below(9) - 4;
            c = below(3) == 0 ? below(121) - 60 : below(5) - 2;
            a = below(4);
        } else if (op == 3 || op == 4 || op == 11) {
            b = below(12);
        } else if (op == 48 || op == 49) {
            c = below(26);
        } else if (op == 51 || op == 52) {
            b = below(9);
        } else if (op == 58) {
            b = below(5) == 0 ? -1 : 20 + below(10);
        } else if (op == 60) {
            c = below(4);
        } else if (op == 64 && below(4) > 0) {
            b = 5 + below(3);
        }
        if (below(2) == 0 || flavour == 0) {
            a &= 3;
            c = c > 7 ? c : c & 3;
        }
        if (op >= 59 && op <= 61 && below(3) == 0) {
            a = below(40);
        }
        int got = x.act(p, op, a, b, c);
        // What is refused is asked elsewhere: the Oracle takes all.
        due("act(" + p + ", " + op + ", " + a + ", " + b + ", " + c + ")", got, got < 0 ? got : o.act(p, op, a, b, c));
        REACHED[op] += got >= 0 ? 1 : 0;
    }

    /** One question by chance, oftener of THINGS, as there are more of them. */
    private void ask() {
        int th = below(3);
        int k = below(8);
        int t = below(o.count(0) + 1);
        switch (below(16)) {
            case 0: case 1: case 2:
                due("number(" + th + ", " + k + ")", x.number(th, k), o.number(th, k));
                break;
            case 3: case 4:
                due("hold(" + th + ", " + k + ")", x.hold(th, k), o.hold(th, k));
                break;
            case 5: case 6:
                due("told(" + th + ", " + k + ")", x.told(th, k), o.told(th, k));
                break;
            case 7:
                due("real(" + th + ", " + k / 2 + ")", x.real(th, k / 2), o.real(th, k / 2));
                break;
            case 8:
                due("small(" + th + ", " + k / 2 + ")", x.small(th, k / 2), o.small(th, k / 2));
                break;
            case 9:
                due("count(" + k + ")", x.count(k), o.count(k));
                break;
            case 10:
                due("trace()", x.trace(), o.trace());
                break;
            case 11:
                due("thing(" + t + ", " + k / 2 + ")", x.thing(t, k / 2), o.thing(t, k / 2));
                break;
            default:
                askInside(t);
                break;
        }
    }

    private void askInside(int t) {
        int sort = o.thing(t, 0);
        if (sort >= 16) {
            int b = below(9);
            due("field(" + t + ", " + b + ")", x.field(t, b), o.field(t, b));
        } else {
            int i = below(sort < 0 ? 1 : o.thing(t, 1) + 1);
            due("item(" + t + ", " + i + ")", x.item(t, i), o.item(t, i));
        }
    }
}
