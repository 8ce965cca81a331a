import java.lang.reflect.Field;

/**
 * No ACT hands a THING to another THREAD, so that by the face alone none can WAIT for another. The
 * document tells what WAITING is all the same: tests of that lay a THING into a HOLD from outside.
 */
final class Gift {
    private Gift() {
    }

    static void lay(MachineWitness x, int thread, int k, int t) {
        try {
            Field strands = MachineWitness.class.getDeclaredField("strands");
            strands.setAccessible(true);
            Object strand = ((Object[]) strands.get(x))[thread];
            Field holds = strand.getClass().getDeclaredField("holds");
            holds.setAccessible(true);
            ((int[]) holds.get(strand))[k] = t;
        } catch (ReflectiveOperationException e) {
            throw new IllegalStateException(e);
        }
    }
}
