/** What is HEARD at its boundaries, sentence by sentence (promises 19 to 21). */
public final class HeardEdgesTest {
    private static final int OUTSIDE = Due.OUTSIDE, FULL = Due.FULL, NONE = Due.NONE;

    private HeardEdgesTest() {
    }

    public static void main(String[] args) {
        noneAtFirst();
        outside();
        sixAtMost();
        nothingIsHeard();
        wasOrWasNot();
        numberEight();
        howMany();
        theFirst();
        allThatIsHeard();
        programAsItIs();
        refusedSecrets();
        Due.end();
    }

    private static void due(String call, long got, long want) {
        Due.due(call, got, want);
    }

    private static void secrets(QuietLines x, int many, int first) {
        due("secrets(0)", x.secrets(0), many);
        due("secrets(1)", x.secrets(1), first);
    }

    private static void noneAtFirst() {
        Due.says("6 such at most, none at first.");
        QuietLines x = new QuietLines();
        due("count(8)", x.count(8), 0);
        due("unhear()", x.unhear(), 0);
        secrets(x, 100, 0);
    }

    private static void outside() {
        Due.says("OUTSIDE: a, i (0 to 8), v (0 to 9), was (0, 1); FULL: 6.");
        int[] most = {9, 8, 9, 1};
        QuietLines x = Due.program("QObOc");
        for (int place = 0; place < 4; place++) {
            int[] h = {0, 0, 0, 0};
            for (int wrong : new int[] {Integer.MIN_VALUE, -9, -1, most[place] + 1, 10, 1000, Integer.MAX_VALUE}) {
                h[place] = wrong;
                due("hear with " + wrong + " at " + place, x.hear(h[0], h[1], h[2], h[3]), OUTSIDE);
            }
            due("count(8) behind refusals", x.count(8), 0);
            for (int right = 0; right <= most[place]; right++) {
                h[place] = right;
                due("hear with " + right + " at " + place, x.hear(h[0], h[1], h[2], h[3]), 1);
                due("unhear()", x.unhear(), 1);
            }
        }
        due("hear(9, 8, 9, 1)", x.hear(9, 8, 9, 1), 1);
    }

    private static void sixAtMost() {
        QuietLines x = Due.program("QObOc");
        for (int i = 1; i <= 6; i++) {
            due("hear number " + i, x.hear(0, 0, i, 0), i);
            due("count(8)", x.count(8), i);
        }
        secrets(x, 40, 0);
        for (int i = 0; i < 3; i++) {
            due("hear number 7", x.hear(0, 0, 0, 0), FULL);
        }
        due("hear OUTSIDE at 6, OUTSIDE is named first", x.hear(10, 0, 0, 0), OUTSIDE);
        due("hear OUTSIDE at 6, OUTSIDE is named first", x.hear(0, 9, 0, 0), OUTSIDE);
        due("hear OUTSIDE at 6, OUTSIDE is named first", x.hear(0, 0, -1, 0), OUTSIDE);
        due("hear OUTSIDE at 6, OUTSIDE is named first", x.hear(0, 0, 0, 2), OUTSIDE);
        due("count(8)", x.count(8), 6);
        secrets(x, 40, 0);
    }

    private static void nothingIsHeard() {
        Due.says("Nothing is HEARD: how much there was.");
        QuietLines x = Due.program("QObOc");
        for (int many = 0; many <= 6; many++) {
            for (int i = 0; i < many; i++) {
                x.hear(0, 0, 5, 1);
            }
            secrets(x, many == 0 ? 100 : 10, many == 0 ? 0 : 50);
            due("unhear() of " + many, x.unhear(), many);
            due("unhear() of none", x.unhear(), 0);
            due("count(8)", x.count(8), 0);
            secrets(x, 100, 0);
        }
        due("hear behind it", x.hear(0, 1, 7, 1), 1);
        secrets(x, 10, 7);
    }

    private static void wasOrWasNot() {
        Due.says("was v (1), or was not (0; also if there was none such)");
        for (int v = 0; v <= 9; v++) {
            QuietLines x = Due.program("QOb");
            x.hear(0, 0, v, 1);
            secrets(x, 10, 10 * v);
            x.unhear();
            x.hear(0, 0, v, 0);
            secrets(x, 90, v == 0 ? 10 : 0);
            x.unhear();
            x.hear(0, 1, v, 1);
            secrets(x, 0, NONE);
            x.unhear();
            x.hear(0, 1, v, 0);
            secrets(x, 100, 0);
        }
        // none such by b that is not 0
        QuietLines x = Due.program("QBb.Oc");
        x.hear(0, 0, 3, 0);
        secrets(x, 99, 0);
        x.hear(0, 0, 3, 1);
        secrets(x, 0, NONE);
        x.unhear();
        x.hear(0, 0, 3, 1);
        secrets(x, 1, 3);
    }

    private static void numberEight() {
        Due.says("that by a and unknown b, c number i (0 to 8) that is SPOKEN");
        QuietLines x = Due.program("QOaOaOaOaOaOaOaOaOc");
        x.hear(0, 8, 9, 1);
        secrets(x, 10, 9);
        x.hear(0, 7, 0, 1);
        secrets(x, 10, 9);
        x.hear(1, 7, 0, 1);
        secrets(x, 0, NONE);
        x = Due.program("QOaOaOaOaOaOaOaOc");
        x.hear(0, 8, 9, 1);
        secrets(x, 0, NONE);
    }

    private static void howMany() {
        Due.says("by THE PROGRAM as it is: how many; the first (10 times b and c); NONE.");
        secrets(Due.program("Q"), 100, 0);
        QuietLines x = Due.program("QObOc");
        x.hear(0, 0, 9, 1);
        secrets(x, 10, 90);
        x.hear(0, 1, 9, 1);
        secrets(x, 1, 99);
        x.hear(0, 1, 9, 0);
        secrets(x, 0, NONE);
    }

    private static void theFirst() {
        for (int pair = 0; pair < 100; pair++) {
            QuietLines x = Due.program("QObOc");
            x.hear(5, 0, pair / 10, 1);
            x.hear(5, 1, pair % 10, 1);
            secrets(x, 1, pair);
        }
    }

    private static void allThatIsHeard() {
        Due.says("pairs of b, c by which all that is HEARD is so");
        // the last one of six counts, too
        QuietLines x = Due.program("QObOc");
        for (int v = 0; v < 6; v++) {
            x.hear(0, 0, v, 0);
            secrets(x, 90 - 10 * v, 10 * (v + 1));
        }
        // what is HEARD by other values of a
        x = Due.program("QSdabOd");
        x.hear(3, 0, 5, 1);
        x.hear(9, 0, 1, 1);
        secrets(x, 10, 20);
        x.hear(9, 0, 2, 1);
        secrets(x, 0, NONE);
    }

    private static void programAsItIs() {
        Due.says("by THE PROGRAM as it is");
        QuietLines x = Due.program("QOb");
        x.hear(0, 0, 7, 1);
        secrets(x, 10, 70);
        x.tell(0, 5, 2, 0, 0, 0);
        secrets(x, 10, 7);
        x.keep(0);
        x.tell(0, 5, 0, 0, 0, 0);
        secrets(x, 0, NONE);
        x.undo();
        secrets(x, 10, 7);
        x.undo();
        secrets(x, 10, 70);
        x.again(0);
        secrets(x, 10, 7);
        x.program();
        secrets(x, 10, 70);
        x.relabel(1, 0);
        secrets(x, 10, 70);
    }

    private static void refusedSecrets() {
        Due.says("`int secrets(int what)`: SECRETS: how many (what = 0), the first (1); NONE. OUTSIDE.");
        QuietLines x = Due.program("QOb");
        for (int heard = 0; heard < 2; heard++) {
            due("secrets(-1)", x.secrets(-1), OUTSIDE);
            due("secrets(2)", x.secrets(2), OUTSIDE);
            for (int far : Due.FAR) {
                due("secrets(" + far + ")", x.secrets(far), OUTSIDE);
            }
            x.hear(0, 1, 0, 1);
        }
        secrets(x, 0, NONE);
    }
}
