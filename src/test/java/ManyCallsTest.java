import java.math.BigInteger;
import java.util.List;

/** An object up to its 512th call: answers are as due to the last one, and none behind it throws. */
public final class ManyCallsTest {
    private static final int MOST_CALLS = 512, BEHIND = 40;
    private static final int OUTSIDE = Due.OUTSIDE, STATE = Due.STATE, FULL = Due.FULL;

    private ManyCallsTest() {
    }

    public static void main(String[] args) {
        Due.says("An object is used for at most 512 calls after it has been made;");
        eachAsTheLast();
        lettersAllAlong();
        actsAllAlong();
        heardAllAlong();
        slotsAllAlong();
        programsAllAlong();
        drawnAllAlong();
        dearestAllAlong();
        Due.says("what later calls answer is free.");
        behindTheLast();
        Due.end();
    }

    private static void due(String call, long got, long want) {
        Due.due(call, got, want);
    }

    /** Each call near the 512th answers as it does on an object of the same state that is young. */
    private static void eachAsTheLast() {
        List<Calls.Call> calls = Calls.all();
        for (int state = 0; state < States.MANY; state++) {
            for (Calls.Call call : calls) {
                QuietLines young = States.make(state);
                QuietLines old = States.make(state);
                // a state is made by some 10 to 90 calls
                for (int i = 90; i < MOST_CALLS - 2; i += 2) {
                    old.seed(old.seed(0));
                }
                String name = "state " + state + ": " + call.name();
                due(name + " as the last but one", call.ask().applyAsLong(old), call.ask().applyAsLong(young));
                due(name + " as the last", call.ask().applyAsLong(old), call.ask().applyAsLong(young));
            }
        }
    }

    private static void lettersAllAlong() {
        QuietLines x = new QuietLines();
        for (int i = 1; i <= MOST_CALLS; i++) {
            due("write number " + i, x.write('Q'), i <= 48 ? i : FULL);
        }
        QuietLines y = new QuietLines();
        for (int i = 1; i <= MOST_CALLS / 2; i++) {
            due("write", y.write('Q'), 1);
            due("wipe", y.wipe(), 1);
        }
        QuietLines z = new QuietLines();
        for (int i = 1; i <= MOST_CALLS; i++) {
            due("wipe of none", z.wipe(), 0);
        }
    }

    private static void actsAllAlong() {
        QuietLines x = Due.program("QKa0");
        int calls = 5;
        for (int i = 1; calls < MOST_CALLS - 29; i++, calls++) {
            due("tell number " + i, x.tell(0, 0, 0, i % 10, 0, 0), 0);
        }
        int v = x.line(0, 2);
        for (int left = 13; left >= 0; left--) {
            due("undo", x.undo(), left);
            due("v", x.line(0, 2), (v + 9 * (14 - left)) % 10);
        }
        QuietLines y = new QuietLines();
        for (int i = 0; i < MOST_CALLS / 2; i++) {
            due("relabel", y.relabel(0, 3), 0);
            due("undo", y.undo(), 0);
        }
        QuietLines z = new QuietLines();
        for (int i = 0; i < MOST_CALLS; i++) {
            due("undo of none", z.undo(), STATE);
        }
    }

    private static void heardAllAlong() {
        QuietLines x = new QuietLines();
        for (int i = 1; i <= MOST_CALLS; i++) {
            due("hear number " + i, x.hear(0, 0, 0, 0), i <= 6 ? i : FULL);
        }
        QuietLines y = new QuietLines();
        for (int i = 0; i < MOST_CALLS / 2; i++) {
            due("hear", y.hear(9, 8, 9, 1), 1);
            due("unhear", y.unhear(), 1);
        }
    }

    private static void slotsAllAlong() {
        QuietLines x = Due.program("QKa0Kb0");
        for (int i = 0; i < 100; i++) {
            due("tell", x.tell(0, 0, 0, i % 10, 0, 0), 0);
            due("keep", x.keep(i % 2), 2);
            due("again, the one ahead of it", x.again(1 - i % 2), i == 0 ? STATE : 2);
            due("v", x.line(0, 2), i == 0 ? 0 : (i - 1) % 10);
            due("ACTS", x.count(7), i == 0 ? 1 : 0);
        }
    }

    private static void programsAllAlong() {
        QuietLines x = Due.text("QOaObOcOdOeOaObOcOd");
        for (int i = 19; i < MOST_CALLS - 1; i++) {
            due("program", x.program(), 9);
        }
        due("count(1)", x.count(1), 9);
        QuietLines y = new QuietLines();
        for (int i = 0; i < MOST_CALLS; i++) {
            due("program of none", y.program(), STATE);
        }
    }

    private static void drawnAllAlong() {
        QuietLines x = Due.program("QOdTd.");
        BigInteger seed = BigInteger.ZERO;
        for (int i = 7; i < MOST_CALLS - 1; i++) {
            due("drawn(20)", x.drawn(20), 20);
            for (int k = 0; k < 20; k++) {
                seed = seed.multiply(new BigInteger("6364136223846793005")).add(new BigInteger("1442695040888963407"))
                        .mod(BigInteger.TWO.pow(64));
            }
        }
        due("THE SEED", x.seed(0), seed.longValue());
    }

    /** The calls that take the most RUNS, all along: five LINES that speak, no LEAK, 6 HEARD. */
    private static void dearestAllAlong() {
        QuietLines x = Due.program("QKb0Kc0Kd1ObOcOdOaOe");
        for (int i = 0; i < 6; i++) {
            x.hear(i, 8, 0, 0);
        }
        for (int i = 26; i < MOST_CALLS - 6; i += 6) {
            due("share", x.share(7, 9, true), 0);
            due("leak", x.leak(3), Due.NONE);
            due("secrets", x.secrets(0), 100);
            due("worlds", x.worlds(9), 1);
            due("alike", x.alike(9, 9, 9), 100);
            due("judge", x.judge(4, 1003700170017001L), Due.NONE);
        }
        due("drawn(21)", x.drawn(21), OUTSIDE);
    }

    private static void behindTheLast() {
        List<Calls.Call> calls = Calls.all();
        for (int state = 0; state < States.MANY; state++) {
            QuietLines x = States.make(state);
            for (int i = 0; i < MOST_CALLS; i++) {
                x.count(i % 9);
            }
            for (Calls.Call call : calls) {
                call.ask().applyAsLong(x);
            }
            for (int i = 0; i < BEHIND; i++) {
                x.write('a');
                x.relabel(0, i % 4);
                x.hear(0, 0, 0, 0);
            }
            Due.holds("the state can still be asked for", x.count(7) <= 14 && x.count(8) <= 6 && x.count(0) <= 48);
        }
    }
}
