/** What can be asked of an object, as a text: where two texts are the same, nothing has changed. */
final class State {
    private State() {
    }

    /** Everything, but for the insides of THINGS. */
    static String ofAll(MachineWitness x) {
        StringBuilder s = new StringBuilder("counts");
        for (int k = 0; k < 8; k++) {
            s.append(' ').append(x.count(k));
        }
        s.append(", trace ").append(x.trace());
        for (int thread = 0; thread < 3; thread++) {
            s.append(", told");
            for (int k = 0; k < 8; k++) {
                s.append(' ').append(x.told(thread, k));
            }
            s.append(", ring ").append(x.ring(thread));
            registers(s, x, thread);
        }
        return s.toString();
    }

    /** What an ACT of THREAD 0 that FAILS must leave: registers, THINGS with all inside them. */
    static String ofRegistersAndThings(MachineWitness x) {
        StringBuilder s = new StringBuilder("things ").append(x.count(0));
        registers(s, x, 0);
        for (int t = 0; t < x.count(0); t++) {
            s.append(", thing");
            for (int k = 0; k < 4; k++) {
                s.append(' ').append(x.thing(t, k));
            }
            boolean object = x.thing(t, 0) >= 16;
            int many = object ? 9 : x.thing(t, 1);
            for (int k = 0; k < many; k++) {
                s.append(' ').append(object ? x.field(t, k) : x.item(t, k));
            }
        }
        return s.toString();
    }

    private static void registers(StringBuilder s, MachineWitness x, int thread) {
        s.append(", registers");
        for (int k = 0; k < 8; k++) {
            s.append(' ').append(x.number(thread, k)).append(' ').append(x.hold(thread, k));
        }
        for (int k = 0; k < 4; k++) {
            s.append(' ').append(x.real(thread, k)).append(' ').append(x.small(thread, k));
        }
    }
}
