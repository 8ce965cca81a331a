import java.util.Random;

/**
 * Calls with numbers of all kinds in states of all kinds, from fixed seeds. None may throw; and behind clear()
 * (promise 18) an object must answer as a new one does, whatever it was used for.
 */
public final class WildTest {
    private static final Due DUE = new Due();
    private static final int RUNS = 4000, CALLS = 250;
    private static final int[] FAR = {Integer.MIN_VALUE, -61, -2, -1, 40, 41, 160, 500, 501, Integer.MAX_VALUE};
    private static int failed = 0;

    private final Random chance;

    private WildTest(long seed) {
        chance = new Random(seed);
    }

    public static void main(String[] args) {
        for (long seed = 1; seed <= RUNS && DUE.wrong() == 0; seed++) {
            MachineWitness used = new MachineWitness();
            new WildTest(seed).answers(used);
            DUE.due("seed " + seed + ": count(0) and clear()", used.count(0), used.clear());
            long[] again = new WildTest(-seed).answers(used);
            long[] fresh = new WildTest(-seed).answers(new MachineWitness());
            for (int i = 0; i < CALLS; i++) {
                DUE.due("seed " + seed + ", call " + i + " behind clear()", again[i], fresh[i]);
            }
        }
        DUE.due("some THREADS ended by a FAILURE", failed > 0 ? 1 : 0, 1);
        DUE.finish();
    }

    private long[] answers(MachineWitness x) {
        long[] answers = new long[CALLS];
        for (int i = 0; i < CALLS; i++) {
            answers[i] = call(x);
        }
        return answers;
    }

    private int below(int n) {
        return chance.nextInt(n);
    }

    /** One of so many, but now and then one that is far from them, or any int. */
    private int near(int n) {
        int how = below(40);
        return how == 0 ? FAR[below(FAR.length)] : how == 1 ? chance.nextInt() : below(n);
    }

    private long call(MachineWitness x) {
        int how = below(100);
        if (how < 45) {
            int op = near(66);
            int b = op == 0 ? near(14) - 1 : op == 58 ? 20 + near(10) : near(op == 3 || op == 4 || op == 11 ? 12 : 8);
            return x.act(near(6), op, near(4), b, near(op == 48 || op == 49 ? 26 : 4));
        }
        if (how < 50) {
            int from = near(10);
            return x.handler(near(6), from, from + near(12), below(2) == 0 ? -1 : near(30), near(40));
        }
        if (how < 60) {
            return x.start(near(3), near(6));
        }
        if (how < 78) {
            int answer = x.turn(near(3), below(2) == 0 ? 1 + near(5) : near(501));
            failed += answer < -10 ? 1 : 0;
            return answer;
        }
        return how < 81 ? x.empty(near(6)) : question(x);
    }

    private long question(MachineWitness x) {
        switch (below(12)) {
            case 0: return x.number(near(3), near(8));
            case 1: return x.real(near(3), near(4));
            case 2: return x.small(near(3), near(4));
            case 3: return x.hold(near(3), near(8));
            case 4: return x.told(near(3), near(8));
            case 5: return x.thing(near(20), near(4));
            case 6: case 7: return x.item(near(20), near(6));
            case 8: return x.field(near(20), near(9));
            case 9: return x.ring(near(3));
            case 10: return x.trace();
            default: return x.count(near(8));
        }
    }
}
