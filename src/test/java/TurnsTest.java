/** Ops 58 to 63, TURNS, HANDLERS, CALLS, SPENT. Promises 3, 5, 6, 11. */
public final class TurnsTest {
    private static final Due DUE = new Due();

    public static void main(String[] args) {
        jumps();
        turnsOfSome();
        endsAtOnce();
        actsWhileUnderWay();
        raised();
        handlersInOrder();
        calls();
        callsThatFail();
        roomOfCalls();
        spent();
        startsAgain();
        threadsApart();
        DUE.finish();
    }

    private static void due(String call, long got, long want) {
        DUE.due(call, got, want);
    }

    private static void told(String when, MachineWitness x, int thread, int... want) {
        for (int k = 0; k < want.length; k++) {
            due(when + ": told " + k, x.told(thread, k), want[k]);
        }
    }

    private static void jumps() {
        int[] numbers = {0, 5, -5};
        int[][] goes = {{1, 0, 0}, {0, 1, 1}, {0, 0, 1}, {0, 1, 0}};
        for (int c = 0; c < 4; c++) {
            for (int i = 0; i < 3; i++) {
                MachineWitness x = new MachineWitness();
                x.act(0, 0, 3, numbers[i], 0);
                x.act(0, 60, 3, 3, c);
                x.act(0, 0, 0, 9, 0);
                x.start(0, 0);
                due("60", x.turn(0, 500), 0);
                due("60 of " + numbers[i] + " by " + c, x.number(0, 0), goes[c][i] == 1 ? 0 : 9);
                due("ACTS", x.told(0, 0), goes[c][i] == 1 ? 2 : 3);
            }
        }
        MachineWitness x = new MachineWitness();
        x.act(0, 61, 2, 1, -1);
        x.act(0, 58, 0, 20, 0);
        x.act(0, 18, 1, 0, 0);
        x.act(0, 61, 1, 1, 0);
        x.act(0, 59, 7, -1, -1);
        x.act(0, 58, 0, 21, 0);
        x.act(0, 58, 0, 22, 0);
        x.act(0, 0, 0, 1, 0);
        x.act(0, 63, -1, -1, -1);
        x.act(0, 58, 0, 23, 0);
        x.start(0, 0);
        due("61, 59, 63", x.turn(0, 500), 0);
        told("61, 59, 63", x, 0, 6, 0, 0, -1, -1, 0, -1, 0);
        x.clear();
        x.act(0, 59, 39, 0, 0);
        x.act(0, 58, 0, 20, 0);
        x.start(0, 0);
        due("a jump behind the last ACT", x.turn(0, 1), 0);
        due("it was an ACT", x.told(0, 0), 1);
    }

    private static void turnsOfSome() {
        MachineWitness x = new MachineWitness();
        x.act(0, 0, 0, 1, 0);
        x.act(0, 3, 1, 0, 0);
        x.act(0, 59, 1, 0, 0);
        x.start(1, 0);
        due("1", x.turn(1, 1), 1);
        due("none yet", x.number(1, 1), 0);
        due("1", x.turn(1, 1), 1);
        due("one", x.number(1, 1), 1);
        due("500", x.turn(1, 500), 1);
        due("250 more", x.number(1, 1), 251);
        told("it goes on", x, 1, 502, 0, 0, -1, -1, 1, -1, 1);
    }

    private static void endsAtOnce() {
        MachineWitness x = new MachineWitness();
        x.act(0, 0, 0, 1, 0);
        x.act(0, 62, 1, 0, 0);
        x.act(1, 62, 2, 0, 0);
        x.act(2, 0, 1, 1, 0);
        x.start(0, 0);
        due("two CALLS", x.turn(0, 3), 1);
        due("PROGRAMS", x.told(0, 5), 3);
        due("all three end behind their last ACTS", x.turn(0, 1), 0);
        told("ended", x, 0, 4, 0, 0, -1, -1, 0, -1, 0);
        x.start(0, 3);
        due("no ACTS", x.turn(0, 500), 0);
        due("no ACT", x.told(0, 0), 4);
        x.act(3, 62, 4, 0, 0);
        x.act(3, 0, 2, 7, 0);
        x.start(0, 3);
        due("an empty PROGRAM is CALLED", x.turn(0, 1), 1);
        due("it has ended", x.told(0, 5), 1);
        due("and it goes on behind", x.turn(0, 1), 0);
        due("there", x.number(0, 2), 7);
    }

    private static void actsWhileUnderWay() {
        MachineWitness x = new MachineWitness();
        x.start(0, 0);
        due("act", x.act(0, 0, 0, 5, 0), 0);
        due("act", x.act(0, 0, 1, 6, 0), 1);
        due("one", x.turn(0, 1), 1);
        due("act", x.act(0, 0, 2, 7, 0), 2);
        due("two", x.turn(0, 2), 0);
        due("the last", x.number(0, 2), 7);
        due("act", x.act(0, 0, 3, 8, 0), 3);
        due("it has ended", x.turn(0, 2), -2);
        due("nothing of that", x.number(0, 3), 0);
        due("handler", x.handler(0, 0, 40, -1, 0), 1);
    }

    private static void raised() {
        for (int f = 20; f <= 29; f++) {
            MachineWitness x = new MachineWitness();
            x.act(4, 0, 0, 1, 0);
            x.act(4, 58, 99, f, 99);
            x.start(0, 4);
            due("RAISED", x.turn(0, 5), -10 - f);
            told("RAISED", x, 0, 1, 1, f, 4, 1, 0, -1, 0);
            due("N 7 stays", x.number(0, 7), 0);
        }
        MachineWitness x = new MachineWitness();
        x.act(0, 58, 0, -1, 0);
        x.start(0, 0);
        due("one that is none", x.turn(0, 5), -11);
    }

    private static void handlersInOrder() {
        MachineWitness x = new MachineWitness();
        x.act(0, 58, 0, 25, 0);
        x.act(0, 58, 0, -1, 0);
        x.act(0, 58, 0, 26, 0);
        x.act(0, 0, 0, 1, 0);
        x.handler(0, 1, 2, -1, 39);
        x.handler(0, 0, 1, 24, 39);
        x.handler(0, 0, 1, 25, 1);
        x.handler(0, 0, 1, -1, 39);
        x.handler(0, 1, 2, 1, 2);
        x.start(0, 0);
        due("the third takes it", x.turn(0, 1), 1);
        due("N 7", x.number(0, 7), 25);
        told("taken", x, 0, 0, 1, 25, 0, 0, 1, -1, 1);
        due("the first takes it, and it ends", x.turn(0, 1), 0);
        due("N 7", x.number(0, 7), 1);
        told("taken", x, 0, 0, 2, 1, 0, 1, 0, -1, 0);
        x.clear();
        x.act(0, 0, 0, 1, 0);
        x.act(0, 58, 0, 26, 0);
        x.handler(0, 0, 1, -1, 0);
        x.handler(0, 2, 40, -1, 0);
        x.start(0, 0);
        due("none at PLACE 1", x.turn(0, 9), -36);
        x.handler(0, 0, 2, 27, 0);
        x.start(0, 0);
        due("none of 26", x.turn(0, 9), -36);
        x.handler(0, 1, 2, 26, 39);
        x.start(0, 0);
        due("taken", x.turn(0, 9), 0);
    }

    private static void calls() {
        MachineWitness x = new MachineWitness();
        x.act(0, 0, 0, 1, 0);
        x.act(0, 62, 5, 0, 0);
        x.act(0, 0, 2, 3, 0);
        x.act(5, 0, 1, 2, 0);
        x.act(5, 63, 0, 0, 0);
        x.act(5, 58, 0, 20, 0);
        x.start(2, 0);
        due("in PROGRAM 5", x.turn(2, 3), 1);
        told("in PROGRAM 5", x, 2, 3, 0, 0, -1, -1, 2, -1, 1);
        due("63", x.turn(2, 1), 1);
        told("63", x, 2, 4, 0, 0, -1, -1, 1, -1, 1);
        due("the end", x.turn(2, 1), 0);
        due("one set of registers", x.number(2, 0) * 100 + x.number(2, 1) * 10 + x.number(2, 2), 123);
    }

    private static void callsThatFail() {
        MachineWitness x = new MachineWitness();
        x.act(0, 62, 1, 0, 0);
        x.act(0, 0, 0, 5, 0);
        x.act(0, 0, 1, 6, 0);
        x.act(1, 62, 2, 0, 0);
        x.act(1, 0, 2, 1, 0);
        x.act(2, 0, 3, 1, 0);
        x.act(2, 58, 0, 22, 0);
        x.handler(2, 0, 1, -1, 0);
        x.handler(1, 1, 2, -1, 0);
        x.handler(0, 0, 1, 22, 2);
        x.start(0, 0);
        due("taken by PROGRAM 0", x.turn(0, 4), 1);
        told("taken", x, 0, 3, 1, 22, 2, 1, 1, -1, 1);
        due("N 7", x.number(0, 7), 22);
        due("on at PLACE 2", x.turn(0, 9), 0);
        due("not PLACE 1", x.number(0, 0), 0);
        due("PLACE 2", x.number(0, 1), 6);
        x.empty(0);
        x.act(0, 62, 1, 0, 0);
        x.start(0, 0);
        due("taken by none", x.turn(0, 9), -32);
        told("ended", x, 0, 7, 2, 22, 2, 1, 0, -1, 0);
    }

    private static void roomOfCalls() {
        MachineWitness x = new MachineWitness();
        x.act(0, 62, 0, 0, 0);
        x.start(0, 0);
        due("8 under way", x.turn(0, 7), 1);
        due("8 under way", x.told(0, 5), 8);
        due("a ninth", x.turn(0, 1), -19);
        told("ROOM", x, 0, 7, 1, 9, 0, 0, 0, -1, 0);
        x.act(0, 0, 1, 1, 0);
        x.act(0, 3, 0, 0, 1);
        x.handler(0, 0, 1, 9, 1);
        x.start(0, 0);
        due("the ninth is taken", x.turn(0, 500), 0);
        due("all eight go on behind", x.number(0, 0), 8);
    }

    private static void spent() {
        MachineWitness x = new MachineWitness();
        x.act(0, 62, 1, 0, 0);
        x.act(1, 58, 0, 20, 0);
        x.handler(0, 0, 1, -1, 0);
        x.start(0, 0);
        // CALL, FAILURE, CALL, FAILURE, ..
        due("20 FAILURES", x.turn(0, 41), 1);
        due("20 FAILURES", x.told(0, 1), 20);
        due("another turn() counts anew", x.turn(0, 40), 1);
        due("40 FAILURES", x.told(0, 1), 40);
        due("SPENT", x.turn(0, 500), -21);
        told("SPENT", x, 0, 20 + 20 + 1 + 20, 61, 11, 1, 0, 0, -1, 0);
        due("N 7 is of the one before", x.number(0, 7), 20);
        x.clear();
        x.act(0, 14, 0, 0, 0);
        x.act(0, 64, 0, 0, 0);
        x.act(0, 3, 1, 3, 2);
        x.handler(0, 2, 3, 6, 2);
        x.start(0, 0);
        due("SPENT at the 21st", x.turn(0, 22), 1);
        due("SPENT at the 21st", x.turn(0, 21), -21);
        told("SPENT", x, 0, 2, 41, 11, 0, 2, 0, -1, 0);
        due("all is let go", x.thing(0, 2), -1);
    }

    private static void startsAgain() {
        MachineWitness x = new MachineWitness();
        x.act(0, 0, 0, 4, 0);
        x.act(0, 18, 3, 0, 0);
        x.act(0, 58, 0, 29, 0);
        x.start(0, 0);
        x.turn(0, 500);
        x.act(1, 3, 0, 0, 0);
        due("start", x.start(0, 1), 1);
        told("what came before is told", x, 0, 2, 1, 29, 0, 2, 1, -1, 1);
        due("turn", x.turn(0, 500), 0);
        due("the registers stay", x.number(0, 0), 8);
        due("the registers stay", x.hold(0, 3), 0);
        told("it counts on", x, 0, 3, 1, 29, 0, 2, 0, -1, 0);
    }

    private static void threadsApart() {
        MachineWitness x = new MachineWitness();
        x.act(0, 3, 0, 0, 1);
        x.act(0, 18, 0, 0, 0);
        x.act(0, 59, 0, 0, 0);
        for (int t = 0; t < 3; t++) {
            due("start", x.start(t, 0), 1);
        }
        due("count(7)", x.count(7), 3);
        for (int t = 0; t < 3; t++) {
            due("turn", x.turn(t, 2), 1);
        }
        for (int t = 0; t < 3; t++) {
            due("each its own", x.hold(t, 0), t);
            due("each its own", x.told(t, 0), 2);
        }
    }
}
