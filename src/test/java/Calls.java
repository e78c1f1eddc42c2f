import java.util.ArrayList;
import java.util.List;
import java.util.function.ToLongFunction;

/** All calls with numbers at their boundaries and on both sides of them, to be tried in many states. */
final class Calls {
    /** A question changes nothing, whatever it answers; a doing changes nothing, if it is refused. */
    record Call(String name, boolean isQuestion, ToLongFunction<QuietLines> ask) {
        boolean isRefusedBy(long answer) {
            return answer >= Due.FULL && answer <= Due.UNKNOWN;
        }
    }

    private static final int[] NUMBERS = {Integer.MIN_VALUE, -9, -2, -1, 0, 1, 2, 3, 4, 5, 6, 8, 9, 10, 11, 20, 21, 255, 256,
        Integer.MAX_VALUE};

    private final List<Call> all = new ArrayList<>();

    private Calls() {
    }

    static List<Call> all() {
        Calls calls = new Calls();
        calls.withoutNumbers();
        calls.ofOneNumber();
        calls.ofLines();
        calls.ofActs();
        calls.ofRuns();
        calls.ofHeard();
        calls.ofLongs();
        return calls.all;
    }

    private void question(String name, ToLongFunction<QuietLines> ask) {
        all.add(new Call(name, true, ask));
    }

    private void doing(String name, ToLongFunction<QuietLines> ask) {
        all.add(new Call(name, false, ask));
    }

    private void withoutNumbers() {
        question("fault()", x -> x.fault());
        question("wrong()", x -> x.wrong());
        doing("wipe()", x -> x.wipe());
        doing("program()", x -> x.program());
        doing("undo()", x -> x.undo());
        doing("unhear()", x -> x.unhear());
    }

    private void ofOneNumber() {
        for (int n : NUMBERS) {
            doing("write(" + n + ")", x -> x.write(n));
            question("leak(" + n + ")", x -> x.leak(n));
            question("worlds(" + n + ")", x -> x.worlds(n));
            question("secrets(" + n + ")", x -> x.secrets(n));
            question("muted(" + n + ", true)", x -> x.muted(n, true));
            question("muted(" + n + ", false)", x -> x.muted(n, false));
            doing("drawn(" + n + ")", x -> x.drawn(n));
            doing("keep(" + n + ")", x -> x.keep(n));
            doing("again(" + n + ")", x -> x.again(n));
            question("count(" + n + ")", x -> x.count(n));
        }
    }

    private void ofLines() {
        for (int n : NUMBERS) {
            for (int m : new int[] {-1, 0, 1, 4, 5, 9, 10}) {
                question("line(" + n + ", " + m + ")", x -> x.line(n, m));
                question("label(" + n + ", " + m + ")", x -> x.label(n, m));
                question("context(" + n + ", " + m + ")", x -> x.context(n, m));
                question("share(" + n + ", " + m + ", true)", x -> x.share(n, m, true));
                question("share(" + n + ", " + m + ", false)", x -> x.share(n, m, false));
            }
        }
    }

    private void ofActs() {
        for (int n : NUMBERS) {
            doing("relabel(" + n + ", 0)", x -> x.relabel(n, 0));
            doing("relabel(1, " + n + ")", x -> x.relabel(1, n));
            doing("relabel(" + n + ", 9)", x -> x.relabel(n, 9));
            doing("tell(" + n + ", 5, 0, 0, 0, 0)", x -> x.tell(n, 5, 0, 0, 0, 0));
            doing("tell(" + n + ", 9, 9, 9, 9, 99)", x -> x.tell(n, 9, 9, 9, 9, 99));
            doing("tell(0, " + n + ", 0, 0, 0, 0)", x -> x.tell(0, n, 0, 0, 0, 0));
            doing("tell(0, 1, " + n + ", 0, 0, 0)", x -> x.tell(0, 1, n, 0, 0, 0));
            doing("tell(0, 0, 0, " + n + ", 0, 0)", x -> x.tell(0, 0, 0, n, 0, 0));
            doing("tell(0, 1, 0, " + n + ", 0, 0)", x -> x.tell(0, 1, 0, n, 0, 0));
            doing("tell(0, 1, 0, 0, " + n + ", 0)", x -> x.tell(0, 1, 0, 0, n, 0));
            doing("tell(0, 5, 0, 0, 0, " + n + ")", x -> x.tell(0, 5, 0, 0, 0, n));
            for (int kind = 2; kind <= 4; kind++) {
                int k = kind;
                doing("tell(0, " + k + ", 0, 0, 0, " + n + ")", x -> x.tell(0, k, 0, 0, 0, n));
                doing("tell(1, " + k + ", 0, 0, 0, " + n + ")", x -> x.tell(1, k, 0, 0, 0, n));
            }
        }
    }

    private void ofRuns() {
        for (int n : NUMBERS) {
            question("run(" + n + ", 0, 0, 0)", x -> x.run(n, 0, 0, 0));
            question("run(0, " + n + ", 0, 0)", x -> x.run(0, n, 0, 0));
            question("run(0, 0, " + n + ", 0)", x -> x.run(0, 0, n, 0));
            question("run(9, 9, 9, " + n + ")", x -> x.run(9, 9, 9, n));
            question("ends(" + n + ", 0, 0, 1)", x -> x.ends(n, 0, 0, 1));
            question("ends(0, " + n + ", 0, 1)", x -> x.ends(0, n, 0, 1));
            question("ends(0, 0, " + n + ", 1)", x -> x.ends(0, 0, n, 1));
            question("ends(9, 9, 9, " + n + ")", x -> x.ends(9, 9, 9, n));
            question("alike(" + n + ", 0, 0)", x -> x.alike(n, 0, 0));
            question("alike(0, " + n + ", 0)", x -> x.alike(0, n, 0));
            question("alike(0, 0, " + n + ")", x -> x.alike(0, 0, n));
        }
    }

    private void ofHeard() {
        for (int n : NUMBERS) {
            doing("hear(" + n + ", 0, 0, 0)", x -> x.hear(n, 0, 0, 0));
            doing("hear(0, " + n + ", 0, 0)", x -> x.hear(0, n, 0, 0));
            doing("hear(0, 0, " + n + ", 0)", x -> x.hear(0, 0, n, 0));
            doing("hear(0, 0, 0, " + n + ")", x -> x.hear(0, 0, 0, n));
        }
    }

    private void ofLongs() {
        long[] rows = {Long.MIN_VALUE, -1, 0, 1000, 1003, 1100, 2000, 3000, 4001, 5000, 6000, 7000, 7909, 9999, 10000,
            10001100, 11001200, 99999999L, 100000000L, 100311031203L, 999999999999L, 1000000000000L, 1003110312036000L,
            9999999999999999L, 10000000000000000L, Long.MAX_VALUE};
        for (long row : rows) {
            for (int n = -1; n <= 6; n++) {
                int many = n;
                question("judge(" + many + ", " + row + ")", x -> x.judge(many, row));
            }
            doing("seed(" + row + ")", x -> x.seed(row));
        }
    }
}
