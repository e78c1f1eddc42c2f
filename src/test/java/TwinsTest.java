import java.util.List;

/** Two objects of one state: one is refused something, or is asked, the other is not; later calls show them alike. */
public final class TwinsTest {
    private static final int MOST_CALLS = 512;
    private static int refused = 0;

    private TwinsTest() {
    }

    public static void main(String[] args) {
        List<Calls.Call> calls = Calls.all();
        Due.says("What is refused changes nothing.");
        for (int state = 0; state < States.MANY; state++) {
            for (Calls.Call call : calls) {
                if (!call.isQuestion()) {
                    refused(state, call);
                }
            }
        }
        Due.holds("many calls are refused: " + refused, refused > 1000);
        Due.says("In what follows nothing is changed.");
        for (int state = 0; state < States.MANY; state++) {
            for (Calls.Call call : calls) {
                if (call.isQuestion()) {
                    asked(state, call);
                }
            }
            askedAll(state, calls);
        }
        shownDiffers();
        Due.end();
    }

    private static void refused(int state, Calls.Call call) {
        QuietLines one = States.make(state);
        if (!call.isRefusedBy(call.ask().applyAsLong(one))) {
            return;
        }
        refused++;
        Due.due("refused again in state " + state + ": " + call.name(), call.ask().applyAsLong(one),
                call.ask().applyAsLong(States.make(state)));
        for (int part = 0; part < States.PARTS; part++) {
            QuietLines x = States.make(state);
            call.ask().applyAsLong(x);
            alike(state, call.name(), x, part);
        }
    }

    private static void alike(int state, String name, QuietLines x, int part) {
        List<Long> got = States.shown(x, part);
        List<Long> want = States.shown(States.make(state), part);
        Due.holds("state " + state + " behind " + name + " shows in part " + part + " " + got + ", due is " + want,
                got.equals(want));
    }

    /** A question shows the same when it is asked again; that other calls show the same is seen by askedAll. */
    private static void asked(int state, Calls.Call call) {
        QuietLines x = States.make(state);
        long answer = call.ask().applyAsLong(x);
        Due.due("state " + state + ": " + call.name() + " again", call.ask().applyAsLong(x), answer);
    }

    /** All questions one after the other, some at a time, so that no object is used for more calls than it is made for. */
    private static void askedAll(int state, List<Calls.Call> calls) {
        int some = MOST_CALLS / 4;
        for (int from = 0; from < calls.size(); from += some) {
            for (int part = 0; part < States.PARTS; part++) {
                QuietLines x = States.make(state);
                for (int i = from; i < Math.min(from + some, calls.size()); i++) {
                    if (calls.get(i).isQuestion()) {
                        calls.get(i).ask().applyAsLong(x);
                    }
                }
                alike(state, "questions from " + calls.get(from).name(), x, part);
            }
        }
    }

    /** What is shown would show a change: of a LINE and of what is HEARD, of ACTS, of a SLOT, of THE TEXT. */
    private static void shownDiffers() {
        for (int part = 0; part < States.PARTS; part++) {
            QuietLines x = States.make(2);
            switch (part) {
                case 0 -> x.tell(8, 6, 0, 0, 0, 0);
                case 1 -> x.relabel(0, 0);
                case 2 -> x.keep(0);
                default -> x.write('O');
            }
            Due.holds("part " + part, !States.shown(x, part).equals(States.shown(States.make(2), part)));
        }
    }
}
