import java.lang.reflect.Constructor;
import java.lang.reflect.Field;
import java.lang.reflect.Method;
import java.lang.reflect.Modifier;
import java.util.ArrayList;
import java.util.List;
import java.util.TreeSet;

/** The face itself, and what every call refuses: promises 1 to 5, 7 to 15, 17, 18. */
public final class FaceTest {
    private static final Due DUE = new Due();
    private static final long LOST = Long.MIN_VALUE;

    public static void main(String[] args) {
        members();
        newObject();
        actsRefused();
        actsTaken();
        handlers();
        emptyAndStart();
        refusals();
        counts();
        clears();
        DUE.finish();
    }

    private static void due(String call, long got, long want) {
        DUE.due(call, got, want);
    }

    private static void members() {
        TreeSet<String> seen = new TreeSet<>();
        Class<?> face = MachineWitness.class;
        for (Method m : face.getDeclaredMethods()) {
            if (!Modifier.isPrivate(m.getModifiers()) && !m.isSynthetic()) {
                List<String> parts = new ArrayList<>();
                for (Class<?> p : m.getParameterTypes()) {
                    parts.add(p.getName());
                }
                seen.add(m.getReturnType() + " " + m.getName() + String.join(",", parts));
            }
        }
        for (Field f : face.getDeclaredFields()) {
            if (!Modifier.isPrivate(f.getModifiers()) && !f.isSynthetic()) {
                seen.add(f.getType() + " " + f.getName());
            }
        }
        for (Constructor<?> c : face.getDeclaredConstructors()) {
            seen.add("new " + c.getParameterCount() + Modifier.isPublic(c.getModifiers()));
        }
        String[] want = {
            "int NONE", "int BAD", "int STATE", "int FULL", "long LOST", "new 0true",
            "int actint,int,int,int,int", "int handlerint,int,int,int,int", "int emptyint",
            "int startint,int", "int turnint,int", "long numberint,int", "long realint,int",
            "long smallint,int", "int holdint,int", "int toldint,int", "int thingint,int",
            "long itemint,int", "long fieldint,int", "int ringint", "int trace", "int countint",
            "int clear"};
        due("members", seen.size(), want.length);
        for (String w : want) {
            due(w, seen.contains(w) ? 1 : 0, 1);
        }
        due("final", Modifier.isFinal(face.getModifiers()) ? 1 : 0, 1);
        due("NONE", MachineWitness.NONE, -1);
        due("BAD", MachineWitness.BAD, -1);
        due("STATE", MachineWitness.STATE, -2);
        due("FULL", MachineWitness.FULL, -3);
        due("LOST", MachineWitness.LOST, LOST);
    }

    private static void newObject() {
        MachineWitness x = new MachineWitness();
        asAtFirst("new", x);
    }

    private static void asAtFirst(String when, MachineWitness x) {
        for (int i = 0; i < 8; i++) {
            due(when + " count " + i, x.count(i), 0);
        }
        due(when + " trace", x.trace(), 0);
        int[] told = {0, 0, 0, -1, -1, 0, -1, 0};
        for (int t = 0; t < 3; t++) {
            for (int k = 0; k < 8; k++) {
                due(when + " number", x.number(t, k), 0);
                due(when + " hold", x.hold(t, k), -1);
                due(when + " told " + k, x.told(t, k), told[k]);
            }
            for (int k = 0; k < 4; k++) {
                due(when + " real", x.real(t, k), 0);
                due(when + " small", x.small(t, k), 0);
            }
            due(when + " ring", x.ring(t), 0);
            due(when + " turn", x.turn(t, 1), -2);
        }
        due(when + " thing", x.thing(0, 0), -2);
        due(when + " item", x.item(0, 0), LOST);
        due(when + " field", x.field(0, 0), LOST);
    }

    /** The lowest and the greatest of a, b and c of every op; Integer.MIN_VALUE up where all will do. */
    private static int[][] shape(int op, int b) {
        int[] n = {0, 7};
        int[] r = {0, 3};
        int[] any = {Integer.MIN_VALUE, Integer.MAX_VALUE};
        int[] place = {0, 39};
        int[] kind = {0, 25};
        int[][] to = {r, n, n, r, n, n, r, r, n, n, n, n};
        int[][] from = {n, r, r, n, r, r, r, r, n, n, n, n};
        int[][] register = {n, r, r, n, n, n, n, n, n};
        switch (op) {
            case 0: return new int[][] {n, any, any};
            case 1: case 2: return new int[][] {r, any, {-60, 60}};
            case 3: case 4: return new int[][] {n, {0, 11}, n};
            case 5: case 6: return new int[][] {r, {0, 7}, r};
            case 7: case 8: return new int[][] {r, {0, 5}, r};
            case 9: case 10: return new int[][] {n, r, r};
            case 11: return new int[][] {to[Math.floorMod(b, 12)], {0, 11}, from[Math.floorMod(b, 12)]};
            case 12: return new int[][] {n, any, n};
            case 13: return new int[][] {n, any, any};
            case 14: return new int[][] {n, {0, 7}, n};
            case 15: return new int[][] {n, {0, 4}, n};
            case 16: case 17: return new int[][] {n, n, n};
            case 18: return new int[][] {n, {0, 4}, any};
            case 26: case 27: case 34: case 35: case 44: return new int[][] {r, n, n};
            case 42: case 46: case 47: case 55: return new int[][] {n, n, any};
            case 48: case 49: return new int[][] {n, n, kind};
            case 51: case 52: return new int[][] {register[Math.floorMod(b, 9)], {0, 8}, n};
            case 54: case 57: return new int[][] {r, n, any};
            case 58: return new int[][] {any, {-1, 29}, any};
            case 59: return new int[][] {place, any, any};
            case 60: return new int[][] {place, n, {0, 3}};
            case 61: return new int[][] {place, n, any};
            case 62: return new int[][] {{0, 5}, any, any};
            case 63: return new int[][] {any, any, any};
            case 64: case 65: return new int[][] {any, n, any};
            default: return new int[][] {n, n, n};
        }
    }

    private static boolean fits(int op, int a, int b, int c) {
        if (op < 0 || op > 65 || op == 19 || op == 52 && b == 5) {
            return false;
        }
        if (op == 58 && b >= 0 && b < 20 || (op == 48 || op == 49) && c == 15) {
            return false;
        }
        int[][] s = shape(op, b);
        return a >= s[0][0] && a <= s[0][1] && b >= s[1][0] && b <= s[1][1] && c >= s[2][0] && c <= s[2][1];
    }

    private static final int[] EDGES = {Integer.MIN_VALUE, -61, -60, -2, -1, 0, 1, 2, 3, 4, 5, 6, 7, 8, 9, 11, 12,
        14, 15, 16, 19, 20, 21, 24, 25, 26, 29, 30, 39, 40, 60, 61, Integer.MAX_VALUE};

    /** Every op with every edge, against the document's words in shape(). */
    private static void actsRefused() {
        for (int op = -1; op <= 67; op++) {
            for (int a : EDGES) {
                for (int b : EDGES) {
                    actsWithEveryC(op, a, b);
                }
            }
        }
        MachineWitness x = new MachineWitness();
        for (int op : new int[] {Integer.MIN_VALUE, Integer.MAX_VALUE, 1000, -2, 1431655766}) {
            due("act(0, " + op + ")", x.act(0, op, 0, 0, 0), -1);
        }
        for (int program : new int[] {-1, 6, Integer.MIN_VALUE, Integer.MAX_VALUE}) {
            due("act of " + program, x.act(program, 0, 0, 0, 0), -1);
        }
    }

    /** A new object each time, as nothing is promised of one behind its 512th call. */
    private static void actsWithEveryC(int op, int a, int b) {
        MachineWitness x = new MachineWitness();
        int made = 0;
        for (int c : EDGES) {
            int want = fits(op, a, b, c) ? made : -1;
            due("act(3, " + op + ", " + a + ", " + b + ", " + c + ")", x.act(3, op, a, b, c), want);
            made += want >= 0 ? 1 : 0;
        }
    }

    private static void actsTaken() {
        MachineWitness x = new MachineWitness();
        for (int p = 0; p < 6; p++) {
            for (int i = 0; i < 40; i++) {
                due("act", x.act(p, 0, i % 8, i, 99), i);
            }
            due("FULL", x.act(p, 0, 0, 0, 0), -3);
            due("BAD before FULL", x.act(p, 0, 8, 0, 0), -1);
            due("count", x.count(p + 1), 40);
        }
    }

    private static void handlers() {
        MachineWitness x = new MachineWitness();
        int[] bad = {Integer.MIN_VALUE, -2, 0, 11, 12, 19, 30, Integer.MAX_VALUE};
        for (int f : bad) {
            due("handler of FAILURE " + f, x.handler(0, 0, 1, f, 0), -1);
        }
        due("from -1", x.handler(0, -1, 1, -1, 0), -1);
        due("from 40", x.handler(0, 40, 41, -1, 0), -1);
        due("from = to", x.handler(0, 2, 2, -1, 0), -1);
        due("from > to", x.handler(0, 3, 2, -1, 0), -1);
        due("to 41", x.handler(0, 0, 41, -1, 0), -1);
        due("place -1", x.handler(0, 0, 1, -1, -1), -1);
        due("place 40", x.handler(0, 0, 1, -1, 40), -1);
        due("program -1", x.handler(-1, 0, 1, -1, 0), -1);
        due("program 6", x.handler(6, 0, 1, -1, 0), -1);
        int[] good = {-1, 1, 10, 20, 29, 5};
        for (int i = 0; i < good.length; i++) {
            due("handler", x.handler(5, 0, 40, good[i], 39), i + 1);
        }
        due("FULL", x.handler(5, 0, 40, -1, 39), -3);
        due("BAD before FULL", x.handler(5, 0, 40, 11, 39), -1);
        due("handler of another", x.handler(4, 39, 40, 3, 0), 1);
        due("a HANDLER is no ACT", x.count(6), 0);
    }

    private static void emptyAndStart() {
        MachineWitness x = new MachineWitness();
        due("empty(-1)", x.empty(-1), -1);
        due("empty(6)", x.empty(6), -1);
        due("empty(0)", x.empty(0), 0);
        x.act(0, 0, 0, 5, 0);
        x.act(0, 58, 0, 20, 0);
        x.handler(0, 0, 40, -1, 39);
        due("start(-1, 0)", x.start(-1, 0), -1);
        due("start(3, 0)", x.start(3, 0), -1);
        due("start(0, -1)", x.start(0, -1), -1);
        due("start(0, 6)", x.start(0, 6), -1);
        due("start(2, 1)", x.start(2, 1), 1);
        due("start(2, 0)", x.start(2, 0), -2);
        due("start(2, 6)", x.start(2, 6), -1);
        due("empty, one under way", x.empty(0), -2);
        due("empty(6), one under way", x.empty(6), -1);
        due("told(2, 5)", x.told(2, 5), 1);
        due("told(2, 7)", x.told(2, 7), 1);
        due("count(7)", x.count(7), 1);
        due("an empty PROGRAM ends", x.turn(2, 1), 0);
        due("told(2, 7)", x.told(2, 7), 0);
        due("empty(0)", x.empty(0), 2);
        x.act(0, 58, 0, 20, 0);
        x.start(0, 0);
        due("its HANDLERS are gone, too", x.turn(0, 5), -30);
        due("six again", x.handler(0, 0, 1, -1, 0), 1);
    }

    private static void refusals() {
        MachineWitness x = new MachineWitness();
        x.act(0, 18, 0, 0, 0);
        x.act(0, 0, 0, 2, 0);
        x.act(0, 14, 1, 4, 0);
        x.start(0, 0);
        due("turn n 0", x.turn(0, 0), -1);
        due("turn n 501", x.turn(0, 501), -1);
        due("turn -1", x.turn(-1, 1), -1);
        due("turn 3", x.turn(3, 1), -1);
        due("BAD before STATE", x.turn(1, 0), -1);
        due("turn of one not under way", x.turn(1, 1), -2);
        due("turn", x.turn(0, 500), 0);
        for (int t : new int[] {-1, 3, Integer.MIN_VALUE, Integer.MAX_VALUE}) {
            due("number", x.number(t, 0), LOST);
            due("real", x.real(t, 0), LOST);
            due("small", x.small(t, 0), LOST);
            due("hold", x.hold(t, 0), -2);
            due("told", x.told(t, 0), -2);
            due("ring", x.ring(t), -1);
            due("thing", x.thing(t, 0), -2);
            due("item", x.item(t, 0), LOST);
            due("field", x.field(t, 0), LOST);
        }
        for (int k : new int[] {-1, 8, Integer.MIN_VALUE, Integer.MAX_VALUE}) {
            due("number", x.number(0, k), LOST);
            due("hold", x.hold(0, k), -2);
            due("told", x.told(0, k), -2);
            due("thing", x.thing(1, k), -2);
            due("item", x.item(1, k), LOST);
        }
        due("real 4", x.real(0, 4), LOST);
        due("real -1", x.real(0, -1), LOST);
        due("small 4", x.small(0, 4), LOST);
        due("small -1", x.small(0, -1), LOST);
        due("thing of 4", x.thing(0, 4), -2);
        due("thing 2", x.thing(2, 0), -2);
        due("item of an OBJECT", x.item(0, 0), LOST);
        due("item 2 of 2", x.item(1, 2), LOST);
        due("field of a ROW", x.field(1, 0), LOST);
        due("field -1", x.field(0, -1), LOST);
        due("field 9", x.field(0, 9), LOST);
    }

    private static void counts() {
        MachineWitness x = new MachineWitness();
        for (int p = 0; p < 6; p++) {
            for (int i = 0; i <= p; i++) {
                x.act(p, 18, 0, 0, 0);
            }
        }
        x.start(0, 5);
        x.start(2, 4);
        x.turn(0, 6);
        x.turn(2, 1);
        due("count(0)", x.count(0), 7);
        for (int p = 0; p < 6; p++) {
            due("count", x.count(p + 1), p + 1);
        }
        due("count(7)", x.count(7), 1);
        due("count(-1)", x.count(-1), -1);
        due("count(8)", x.count(8), -1);
        due("count(MIN)", x.count(Integer.MIN_VALUE), -1);
        due("count(MAX)", x.count(Integer.MAX_VALUE), -1);
    }

    private static void clears() {
        MachineWitness x = new MachineWitness();
        for (int round = 0; round < 3; round++) {
            x.act(0, 18, 0, 3, 0);
            x.act(0, 0, 7, 9, 0);
            x.act(0, 1, 3, 9, 0);
            x.act(0, 2, 3, 9, 0);
            x.act(0, 52, 7, 0, 0);
            x.act(0, 52, 3, 1, 0);
            x.act(0, 52, 0, 3, 0);
            x.act(0, 53, 0, 0, 7);
            x.act(0, 14, 1, 6, 7);
            x.act(0, 64, 0, 0, 0);
            x.act(0, 58, 0, 20, 0);
            x.act(0, 58, 0, 21, 0);
            x.handler(0, 10, 11, -1, 11);
            x.start(0, 0);
            due("ends by 21", x.turn(0, 500), -31);
            x.start(0, 0);
            due("goes on", x.turn(0, 10), 1);
            x.act(1, 12, 0, 0, 0);
            x.start(1, 1);
            due("clear", x.clear(), 4);
            asAtFirst("cleared", x);
            x.act(0, 18, 0, 3, 0);
            x.start(0, 0);
            x.turn(0, 1);
            for (int b = 0; b < 9; b++) {
                due("a new field", x.field(0, b), b == 3 || b == 4 ? -1 : 0);
            }
            due("a new THING is not locked", x.thing(0, 2), -1);
            due("nor once", x.thing(0, 3), 0);
            due("clear", x.clear(), 1);
        }
        due("clear of nothing", x.clear(), 0);
        clearedItems();
    }

    private static void clearedItems() {
        for (int sort = 0; sort < 8; sort++) {
            Bench w = new Bench();
            w.run(Bench.act(0, 0, 12, 0), Bench.act(14, 0, sort, 0), Bench.act(1, 1, 5, 0), Bench.act(2, 1, 5, 0),
                Bench.act(0, 1, 5, 0));
            for (int i = 0; i < 12; i++) {
                w.run(Bench.act(0, 0, i, 0), Bench.act(28 + sort, 1, 0, 0));
                due("an ITEM is written", w.x.item(0, i) != 0 ? 1 : 0, 1);
            }
            due("clear", w.x.clear(), 1);
            w.run(Bench.act(0, 0, 12, 0), Bench.act(14, 0, sort, 0));
            for (int i = 0; i < 12; i++) {
                due("a new ITEM where another was", w.x.item(0, i), 0);
            }
        }
    }
}
