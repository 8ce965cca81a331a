import java.lang.reflect.Field;

/**
 * No ACT hands a THING to another THREAD, so that by the face alone none can WAIT for another. The
 * document tells what WAITING is all the same: tests of that lay a THING into a HOLD from outside.
 * How the class keeps its state is free, so a test asks first whether that works here.
 */
final class Gift {
    private Gift() {
    }

    static boolean works() {
        try {
            return holdsOf(new MachineWitness(), 0).length == 8;
        } catch (ReflectiveOperationException | ClassCastException e) {
            return false;
        }
    }

    static void lay(MachineWitness x, int thread, int k, int t) {
        try {
            holdsOf(x, thread)[k] = t;
        } catch (ReflectiveOperationException e) {
            throw new IllegalStateException(e);
        }
    }

    private static int[] holdsOf(MachineWitness x, int thread) throws ReflectiveOperationException {
        Field strands = MachineWitness.class.getDeclaredField("strands");
        strands.setAccessible(true);
        Object strand = ((Object[]) strands.get(x))[thread];
        Field holds = strand.getClass().getDeclaredField("holds");
        holds.setAccessible(true);
        return (int[]) holds.get(strand);
    }
}
