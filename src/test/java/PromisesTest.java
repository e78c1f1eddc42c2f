/** The promises one by one, with answers worked out by hand from the document. */
public final class PromisesTest {
    private static final int UNKNOWN = -1, OUTSIDE = -2, STATE = -3, FULL = -4, NONE = -9;
    private static final int[] FAR = {-1, Integer.MIN_VALUE, Integer.MAX_VALUE};

    private PromisesTest() {
    }

    public static void main(String[] args) {
        promise1NewObject();
        promises2And3Text();
        promise4Fault();
        promise5Program();
        promise6Line();
        promise7Tell();
        promise8Relabel();
        promise9Undo();
        promise10Label();
        promise11Context();
        promise12Wrong();
        promise13Run();
        promise14Ends();
        promise15Leak();
        promise16Worlds();
        promise17Alike();
        promise18Judge();
        promises19To21Heard();
        promise22Share();
        promise23Muted();
        promises24And25Seed();
        promises26And27Slots();
        promise28Count();
        Due.end();
    }

    private static void due(String call, long got, long want) {
        Due.due(call, got, want);
    }

    private static void promise1NewObject() {
        QuietLines x = new QuietLines();
        int[] counts = {0, 0, 0, 0, 0, 4 + 32, 1, 0, 0};
        for (int what = 0; what < counts.length; what++) {
            due("new: count(" + what + ")", x.count(what), counts[what]);
        }
        due("new: fault()", x.fault(), 0);
        due("new: program()", x.program(), STATE);
        due("new: line(0, 0)", x.line(0, 0), UNKNOWN);
        due("new: tell", x.tell(0, 5, 0, 0, 0, 0), UNKNOWN);
        due("new: undo()", x.undo(), STATE);
        due("new: seed(1)", x.seed(1), 0);
        due("new: unhear()", x.unhear(), 0);
        due("new: again(1)", x.again(1), STATE);
        due("new: secrets(0)", x.secrets(0), 100);
        due("new: secrets(1)", x.secrets(1), 0);
    }

    private static void promises2And3Text() {
        QuietLines x = new QuietLines();
        due("write(256)", x.write(256), OUTSIDE);
        due("write(-1)", x.write(-1), OUTSIDE);
        due("write(255)", x.write(255), 1);
        due("write(0)", x.write(0), 2);
        due("fault() by 255", x.fault(), 0);
        due("wipe()", x.wipe(), 2);
        due("wipe() again", x.wipe(), 0);
        for (int i = 1; i <= 48; i++) {
            due("write number " + i, x.write('Q'), i);
        }
        due("write at 48", x.write('Q'), FULL);
        due("write(256) at 48", x.write(256), OUTSIDE);
        due("count(0) at 48", x.count(0), 48);
        due("fault() of QQ..", x.fault(), 1);
        due("wipe() of 48", x.wipe(), 48);
        Due.write(x, "QOa");
        due("program() behind a wipe", x.program(), 1);
        due("wipe() leaves the PROGRAM", x.wipe(), 3);
        due("count(1)", x.count(1), 1);
    }

    private static void fault(String text, int want) {
        due("fault() of " + text, Due.text(text).fault(), want);
    }

    private static void promise4Fault() {
        fault("", 0);
        fault("q", 0);
        fault("OQ", 0);
        fault("Q", NONE);
        fault("QQ", 1);
        fault("Qk", 1);
        fault("QX", 1);
        fault("QKa", 3);
        fault("QKa9", NONE);
        fault("QKa.", 3);
        fault("QKaa", 3);
        fault("QKa:", 3);
        fault("QKa/", 3);
        fault("QK`", 2);
        fault("QKf", 2);
        fault("QKA1", 2);
        fault("QSabc", NONE);
        fault("QSab", 4);
        fault("QSabf", 4);
        fault("QSabcd", 5);
        fault("QVabc1", NONE);
        fault("QVabc.", NONE);
        fault("QVabc0", 5);
        fault("QVabcd", 5);
        fault("QVab.", 4);
        fault("QBa1", NONE);
        fault("QBa0", 3);
        fault("QBa2", 4);
        fault("QBa2Oa", NONE);
        fault("QBa9", 4);
        fault("QBa9OaOaOaOaOaOaOa", 18);
        fault("QBa9OaOaOaOaOaOaOaOa", NONE);
        fault("QBa9OaOaOaOaOaOaOaOaO", 20);
        fault("QOaTa1", 5);
        fault("QOaTa2", NONE);
        fault("QOaTa3", 6);
        fault("QOaTa3f", 6);
        fault("QOaTa.", NONE);
        fault("QOaTa,", 5);
        fault("QDeOeDeOeDeOeDeOeTe8", 19);
        fault("QDeOeDeOeDeOeDeOeTe9", NONE);
        fault("QDeOeDeOeDeOeDeOeTe", 19);
        fault("QD", 2);
        fault("QO", 2);
        fault("QO1", 2);
        fault("QVabc9VabcPVabc9", 10);
        String nine = "QVabc9Vabc9Vabc9Vabc9Vabc9Vabc9Vabc9Vabc9Vabc9";
        fault(nine, NONE);
        fault(nine.substring(0, 41), 41);
        fault(nine + "O", 46);
        fault(nine + " x", 46);
        QuietLines x = Due.text("QX");
        x.fault();
        due("fault() changes nothing", x.count(0), 2);
    }

    private static void promise5Program() {
        QuietLines x = Due.program("QObOa");
        x.relabel(1, 3);
        x.tell(0, 6, 1, 0, 0, 0);
        x.keep(0);
        x.keep(1);
        x.hear(1, 1, 1, 1);
        x.seed(77);
        x.write('O');
        due("program() by a FAULT", x.program(), STATE);
        due("refused: ACTS", x.count(7), 2);
        due("refused: LABELS", x.count(5), 12 + 32);
        due("refused: kept", x.again(0), 2);
        x.relabel(0, 3);
        x.write('c');
        due("program()", x.program(), 3);
        due("THE TEXT stays", x.count(0), 7);
        due("LABELS as at first", x.count(5), 36);
        due("ACTS are gone", x.count(7), 0);
        due("undo() behind program()", x.undo(), STATE);
        due("kept is gone", x.again(0), STATE);
        due("kept is gone", x.again(1), STATE);
        due("HEARD stays", x.count(8), 1);
        due("THE SEED stays", x.seed(0), 77);
        due("LINE 0 is as in THE TEXT", x.line(0, 0), 5);
        x.tell(0, 6, 1, 0, 0, 0);
        due("the same THE TEXT again", x.program(), 3);
        due("LINE 0 is as in THE TEXT again", x.line(0, 0), 5);
        x.wipe();
        x.write('Q');
        due("program() of none", x.program(), 0);
        due("line(0, 0) of none", x.line(0, 0), UNKNOWN);
    }

    private static void line(QuietLines x, int line, int... want) {
        for (int what = 0; what < want.length; what++) {
            due("line(" + line + ", " + what + ")", x.line(line, what), want[what]);
        }
        for (int what : FAR) {
            due("line(" + line + ", " + what + ")", x.line(line, what), OUTSIDE);
        }
        due("line(" + line + ", 5)", x.line(line, 5), OUTSIDE);
    }

    private static void promise6Line() {
        QuietLines x = Due.program("QKe7SabcVdeb7Ba.Tb7OcDd");
        line(x, 0, 0, 4, 7, NONE, NONE);
        line(x, 1, 1, 0, 1, 2, NONE);
        line(x, 2, 2, 3, 4, 1, 7);
        line(x, 3, 3, 0, NONE, NONE, -1);
        line(x, 4, 4, 1, NONE, NONE, 7);
        line(x, 5, 5, 2, NONE, NONE, NONE);
        line(x, 6, 6, 3, NONE, NONE, NONE);
        due("line(7, 0)", x.line(7, 0), UNKNOWN);
        due("line(7, 9), the first refusal", x.line(7, 9), UNKNOWN);
        for (int line : FAR) {
            due("line(" + line + ", 0)", x.line(line, 0), UNKNOWN);
        }
    }

    private static void outside(QuietLines x, int line, int... t) {
        due("tell OUTSIDE", x.tell(line, t[0], t[1], t[2], t[3], t[4]), OUTSIDE);
    }

    private static void promise7Tell() {
        QuietLines x = Due.program("QOaObOc");
        due("tell K", x.tell(0, 0, 4, 9, 0, 0), 5);
        line(x, 0, 0, 4, 9, NONE, NONE);
        due("tell S", x.tell(0, 1, 3, 4, 4, 0), 0);
        line(x, 0, 1, 3, 4, 4, NONE);
        due("tell V", x.tell(0, 2, 3, 0, 1, 3), 1);
        line(x, 0, 2, 3, 0, 1, 3);
        due("tell B", x.tell(0, 3, 2, 0, 0, 1), 2);
        line(x, 0, 3, 2, NONE, NONE, 1);
        due("tell T", x.tell(0, 4, 2, 0, 0, -1), 3);
        line(x, 0, 4, 2, NONE, NONE, -1);
        due("tell O", x.tell(0, 5, 2, 0, 0, 0), 4);
        due("tell D", x.tell(0, 6, 2, 0, 0, 0), 5);
        line(x, 0, 6, 2, NONE, NONE, NONE);
        due("tell as it is", x.tell(0, 6, 2, 0, 0, 0), 6);
        due("tell the last one", x.tell(2, 3, 0, 0, 0, 3), 5);
        due("ACTS", x.count(7), 9);
        due("tell(3, ..)", x.tell(3, 9, 9, 9, 9, 9), UNKNOWN);
        due("tell(-1, ..)", x.tell(-1, 5, 0, 0, 0, 0), UNKNOWN);
        due("tell(far)", x.tell(Integer.MAX_VALUE, 5, 0, 0, 0, 0), UNKNOWN);
        int[][] bad = {{-1, 0, 0, 0, 0}, {7, 0, 0, 0, 0}, {0, 5, 0, 0, 0}, {0, -1, 0, 0, 0}, {0, 0, 10, 0, 0},
            {0, 0, -1, 0, 0}, {0, 0, 0, 1, 0}, {0, 0, 0, 0, 1}, {0, 0, 0, 0, -1}, {1, 0, 5, 0, 0}, {1, 0, 0, 5, 0},
            {1, 0, 0, 0, -1}, {1, 0, 0, 0, 2}, {2, 0, 0, 0, 0}, {2, 0, 0, 0, 1}, {2, 0, 0, 0, 4}, {2, 0, 0, 0, -2},
            {2, 0, 0, -1, 2}, {3, 0, 1, 0, 2}, {3, 0, 0, 1, 2}, {3, 0, 0, 0, 1}, {4, 0, 0, 0, 0}, {4, 0, 0, 0, -9},
            {4, 5, 0, 0, 2}, {5, 5, 0, 0, 0}, {5, 0, 1, 0, 0}, {5, 0, 0, -9, 0}, {5, 0, 0, 0, -9}, {6, 0, 0, 0, 2},
            {6, 0, 0, 0, -1}, {6, 0, -9, 0, 0}};
        for (int[] one : bad) {
            outside(x, 1, one);
        }
        line(x, 1, 5, 1, NONE, NONE, NONE);
        due("refused: ACTS", x.count(7), 9);
    }

    private static void promise8Relabel() {
        QuietLines x = Due.program("QOaObOc");
        due("relabel(0, 3)", x.relabel(0, 3), 0);
        due("relabel(0, 3) again", x.relabel(0, 3), 3);
        due("relabel(1, 0)", x.relabel(1, 0), 1);
        due("relabel(2, 1)", x.relabel(2, 1), 2);
        due("LABELS", x.count(5), 3 + 16);
        due("wrong()", x.wrong(), 5);
        due("ACTS, also as it is", x.count(7), 4);
        due("relabel(3, 4)", x.relabel(3, 4), UNKNOWN);
        due("relabel(-1, 0)", x.relabel(-1, 0), UNKNOWN);
        due("relabel(0, 4)", x.relabel(0, 4), OUTSIDE);
        due("relabel(0, -1)", x.relabel(0, -1), OUTSIDE);
        due("refused: ACTS", x.count(7), 4);
        QuietLines none = new QuietLines();
        due("relabel without LINES", none.relabel(2, 0), 2);
    }

    private static void promise9Undo() {
        QuietLines x = Due.program("QVabc.Oa");
        x.tell(0, 0, 1, 5, 0, 0);
        x.relabel(1, 2);
        x.tell(0, 5, 4, 0, 0, 0);
        x.relabel(1, 0);
        due("undo a LABEL", x.undo(), 3);
        due("LABELS", x.count(5), 8 + 32);
        due("undo a LINE", x.undo(), 2);
        line(x, 0, 0, 1, 5, NONE, NONE);
        due("undo a LABEL", x.undo(), 1);
        due("LABELS", x.count(5), 36);
        due("undo a LINE", x.undo(), 0);
        line(x, 0, 2, 0, 1, 2, -1);
        due("undo()", x.undo(), STATE);
        for (int i = 0; i < 20; i++) {
            x.tell(1, 0, 0, i % 10, 0, 0);
        }
        due("ACTS are 14 at most", x.count(7), 14);
        for (int left = 13; left >= 0; left--) {
            due("undo()", x.undo(), left);
            due("LINE 1", x.line(1, 2), (left + 5) % 10);
        }
        due("the first ones are forgotten", x.undo(), STATE);
        due("LINE 1", x.line(1, 2), 5);
    }

    private static void labels(QuietLines x, int line, int... want) {
        for (int variable = 0; variable < 5; variable++) {
            due("label(" + line + ", " + variable + ")", x.label(line, variable), want[variable]);
        }
    }

    private static void promise10Label() {
        QuietLines x = Due.program("QSdbcKb5DdOa");
        labels(x, 0, 0, 1, 2, 0, 0);
        labels(x, 1, 0, 1, 2, 3, 0);
        labels(x, 2, 0, 0, 2, 3, 0);
        labels(x, 3, 0, 0, 2, 0, 0);
        // by t x stays as it is and e has z; by the next one x has y and z
        x = Due.program("QVdbc2OdOd");
        labels(x, 1, 0, 1, 2, 3, 0);
        labels(x, 2, 0, 1, 2, 3, 2);
        // in the CONTEXT of b: K, S, D, V and T join it
        x = Due.program("QBb6Ka1SdaaDcVaaa6Tc7OaOe");
        labels(x, 2, 1, 1, 2, 0, 0);
        labels(x, 3, 1, 1, 2, 1, 0);
        labels(x, 4, 1, 1, 1, 1, 0);
        labels(x, 5, 1, 1, 1, 1, 0);
        labels(x, 6, 1, 1, 3, 1, 1);
        labels(x, 7, 1, 1, 3, 1, 1);
        // nothing but CONTEXT is secret
        labels(Due.program("QBb2SdaaOd"), 2, 0, 1, 2, 1, 0);
        labels(Due.program("QBb2Vdaa.Od"), 2, 0, 1, 2, 1, 0);
        labels(Due.program("QBb2Ta2Oe"), 2, 0, 1, 2, 0, 1);
        labels(Due.program("QBc2Vdaa2Oe"), 2, 0, 1, 2, 2, 2);
        // both WAYS lead to the same LINE: by t e has x
        x = Due.program("QTc1Oe");
        labels(x, 1, 0, 1, 2, 0, 2);
        x = Due.program("QVebc1Oe");
        labels(x, 1, 0, 1, 2, 0, 3);
        x.relabel(0, 3);
        labels(x, 0, 3, 1, 2, 0, 0);
        due("label(2, 0)", x.label(2, 0), UNKNOWN);
        due("label(-1, 0)", x.label(-1, 0), UNKNOWN);
        due("label(0, 5)", x.label(0, 5), UNKNOWN);
        due("label(0, -1)", x.label(0, -1), UNKNOWN);
        due("label(far)", x.label(Integer.MIN_VALUE, Integer.MAX_VALUE), UNKNOWN);
    }

    private static void contexts(QuietLines x, int... want) {
        for (int line = 0; line < want.length; line++) {
            due("context(" + line + ", 0)", x.context(line, 0), want[line]);
        }
    }

    private static void meetings(QuietLines x, int... want) {
        for (int line = 0; line < want.length; line++) {
            due("context(" + line + ", 1)", x.context(line, 1), want[line]);
        }
    }

    private static void promise11Context() {
        // one branch within the other
        QuietLines x = Due.program("QBb5Bc4OaOaOaOa");
        meetings(x, 5, 4, 3, 4, 5, 6);
        contexts(x, 0, 1, 3, 3, 1, 0);
        // a full stop: they meet at THE END alone
        x = Due.program("QBb.OaOa");
        meetings(x, 3, 2, 3);
        contexts(x, 0, 1, 1);
        // rows that cross: 0 to 3, 2 to 4
        x = Due.program("QBb3OaBc4OaOa");
        meetings(x, 4, 2, 4, 4, 5);
        contexts(x, 0, 1, 1, 3, 0);
        // if x is not 0 one goes over what stands between; a B with t as the next one is none
        x = Due.program("QBb1Oa");
        meetings(x, 1, 2);
        contexts(x, 0, 0);
        // what is looked at is LABELLED there: behind D b is free
        x = Due.program("QDbBb3OaVabc.Oa");
        meetings(x, 1, 3, 3, 5, 5);
        contexts(x, 0, 0, 0, 0, 2);
        x.relabel(2, 3);
        contexts(x, 0, 0, 0, 0, 3);
        // T to the number of LINES is THE END
        x = Due.program("QTc2Ob");
        meetings(x, 2, 2);
        contexts(x, 0, 2);
        due("context(2, 5)", x.context(2, 5), UNKNOWN);
        due("context(-1, 0)", x.context(-1, 0), UNKNOWN);
        due("context(0, 2)", x.context(0, 2), OUTSIDE);
        due("context(0, -1)", x.context(0, -1), OUTSIDE);
    }

    private static void promise12Wrong() {
        due("wrong()", Due.program("QOaObOcOdOe").wrong(), 6);
        due("wrong() by CONTEXT", Due.program("QBb2OaOa").wrong(), 2);
        due("wrong() behind a D", Due.program("QDbObOc").wrong(), 4);
        due("wrong() by what is THROWN", Due.program("QTb1OeOa").wrong(), 2);
        due("wrong() of an open throw", Due.program("QTa1OeOa").wrong(), 0);
        due("wrong() of none", Due.program("Q").wrong(), 0);
        due("wrong() behind V to a full stop", Due.program("QVdac.OaOb").wrong(), 6);
        QuietLines x = Due.program("QOaOb");
        x.relabel(1, 0);
        due("wrong() of none that is secret", x.wrong(), 0);
        x.tell(0, 3, 2, 0, 0, -1);
        due("wrong() behind a told branch", x.wrong(), 2);
        x.undo();
        x.undo();
        due("wrong() when it is undone", x.wrong(), 2);
    }

    private static void spoken(String program, int a, int b, int c, int... want) {
        QuietLines x = Due.program(program);
        for (int i = 0; i < want.length; i++) {
            due(program + ": run, " + i, x.run(a, b, c, i), want[i]);
        }
        due(program + ": run behind the last", x.run(a, b, c, want.length), NONE);
        due(program + ": ends, 0", x.ends(a, b, c, 0), want.length);
        for (int i : FAR) {
            due(program + ": run, " + i, x.run(a, b, c, i), NONE);
        }
    }

    private static void promise13Run() {
        spoken("QOaObOcOdOe", 1, 2, 3, 1, 2, 3, 0, 0);
        spoken("QSdabOdSddcOd", 5, 5, 9, 0, 9);
        spoken("QSdabOd", 9, 9, 0, 8);
        spoken("QSdabOd", 4, 5, 0, 9);
        spoken("QKa7SaaaOa", 0, 0, 0, 4);
        spoken("QVdab.Od", 9, 4, 0, 2);
        spoken("QVdab.Od", 9, 0, 0);
        spoken("QVdab2OdOe", 9, 0, 0, 1);
        spoken("QKd5Vdab2OdOe", 9, 0, 0, 5, 1);
        spoken("QVeab1Oe", 8, 2, 0, 4);
        spoken("QVeab1Oe", 8, 0, 0, 1);
        spoken("QBa2ObOc", 3, 4, 5, 5);
        spoken("QBa2ObOc", 0, 4, 5, 4, 5);
        spoken("QBa.Ob", 1, 4, 5);
        spoken("QTa2ObOe", 7, 4, 5, 7);
        spoken("QTa2ObOe", 0, 4, 5, 4, 0);
        spoken("QDaOaDbOb", 6, 7, 0, 6, 7);
        spoken("QOaOaOaOaOaOaOaOaOa", 9, 0, 0, 9, 9, 9, 9, 9, 9, 9, 9, 9);
        QuietLines x = Due.program("QOa");
        int[][] bad = {{-1, 0, 0}, {10, 0, 0}, {0, -1, 0}, {0, 10, 0}, {0, 0, -1}, {0, 0, 10}};
        for (int[] one : bad) {
            due("run OUTSIDE", x.run(one[0], one[1], one[2], 0), OUTSIDE);
            due("ends OUTSIDE", x.ends(one[0], one[1], one[2], 0), OUTSIDE);
            due("alike OUTSIDE", x.alike(one[0], one[1], one[2]), OUTSIDE);
        }
    }

    private static void ends(String program, int a, int many, int failure, int e) {
        QuietLines x = Due.program(program);
        due(program + ": ends, 0", x.ends(a, 0, 0, 0), many);
        due(program + ": ends, 1", x.ends(a, 0, 0, 1), failure);
        due(program + ": ends, 2", x.ends(a, 0, 0, 2), e);
        due(program + ": ends, 3", x.ends(a, 0, 0, 3), OUTSIDE);
        due(program + ": ends, -1", x.ends(a, 0, 0, -1), OUTSIDE);
    }

    private static void promise14Ends() {
        ends("QTa.Oa", 4, 0, 1, 4);
        ends("QTa.Oa", 0, 1, 0, 0);
        ends("QTa2Oa", 4, 0, 0, 4);
        ends("QBa.Oa", 4, 0, 0, 0);
        ends("QOaVaab.", 4, 1, 1, 1);
        ends("QKe8Vaab2", 4, 0, 0, 1);
        ends("QTa1Te.", 6, 0, 1, 6);
        ends("QKe8", 4, 0, 0, 8);
        ends("Q", 9, 0, 0, 0);
    }

    private static void leak(String program, int... want) {
        QuietLines x = Due.program(program);
        for (int what = 0; what < 4; what++) {
            due(program + ": leak(" + what + ")", x.leak(what), want.length == 0 ? NONE : want[what]);
        }
        due(program + ": leak(4)", x.leak(4), OUTSIDE);
        due(program + ": leak(-1)", x.leak(-1), OUTSIDE);
    }

    private static void promise15Leak() {
        leak("QOb", 0, 0, 10, 0);
        leak("QOc", 0, 0, 1, 0);
        leak("QOaOaObOc", 0, 0, 1, 3);
        leak("QOa");
        leak("Q");
        // one has none where the other has some
        leak("QBb2OaOa", 0, 0, 10, 1);
        // what is SPOKEN counts, not FAILURE
        leak("QOaTb.");
        // a = 0 divides to 0 by each b, and d stays 0 where b is 0
        leak("QVdab1Od", 1, 0, 10, 0);
        // b is SPOKEN by a = 9 alone
        leak("QKd1SdadBd.Ob", 9, 0, 10, 0);
        // a is SPOKEN by b = c = 9 alone
        leak("QKd1SbbdBb.SccdBc.Oa", 0, 0, 99, 0);
        QuietLines x = Due.program("QOb");
        x.relabel(1, 0);
        due("LABELS do not count: leak(2)", x.leak(2), 10);
    }

    private static void worlds(String program, int a, int want) {
        QuietLines x = Due.program(program);
        due(program + ": worlds(" + a + ")", x.worlds(a), want);
        for (int far : FAR) {
            due(program + ": worlds(" + far + ")", x.worlds(far), OUTSIDE);
        }
        due(program + ": worlds(10)", x.worlds(10), OUTSIDE);
    }

    private static void promise16Worlds() {
        worlds("Q", 0, 1);
        worlds("QOa", 3, 1);
        worlds("QOb", 3, 10);
        worlds("QObOc", 0, 100);
        worlds("QSdbcOd", 9, 10);
        worlds("QBb.Oc", 0, 11);
        // rows of figures 0, of unlike length
        worlds("QBb2OaOa", 0, 2);
        // by a = 2: 0 and 1 (b is 2), 2 (b is 1), and nothing (b is 0)
        worlds("QVdab.Od", 2, 4);
        worlds("QObObObObObObObObOc", 5, 100);
    }

    private static void promise17Alike() {
        QuietLines x = Due.program("QBb.Oc");
        due("alike(0, 1, 5)", x.alike(0, 1, 5), 90);
        due("alike(0, 0, 5)", x.alike(0, 0, 5), 1);
        due("alike(9, 9, 9)", x.alike(9, 9, 9), 90);
        x = Due.program("QBa.ObOc");
        due("alike(0, 9, 9)", x.alike(0, 9, 9), 1);
        due("alike(1, 9, 9)", x.alike(1, 9, 9), 100);
    }

    private static void judged(QuietLines x, int n, long row, int want) {
        due("judge(" + n + ", " + row + ")", x.judge(n, row), want);
    }

    private static void promise18Judge() {
        // CONTEXT of LINES 2 and 3 is 2; WRONG are LINES 3 and 4; MEETING of LINE 1 is 4; WORLDS of 2 are 11
        QuietLines x = Due.program("QSdabBc4Kd0OaOdDdOd");
        long[] so = {1000, 1003, 1200, 2000, 2011, 2022, 2433, 2630, 3000, 3202, 3302, 3400, 4001, 4104, 4607,
            5300, 5400, 7209, 7000};
        for (long one : so) {
            judged(x, 1, one, NONE);
        }
        long[] notSo = {0, 9, 999, 1004, 1300, 1010, 2001, 2050, 2432, 2700, 2900, 3203, 3212, 3700, 4002, 4105, 4114, 4707,
            4606, 5000, 5301, 5310, 5600, 5700, 5900, 6000, 7210, 8000, 9000, 9999};
        for (long one : notSo) {
            judged(x, 1, one, 0);
        }
        judged(x, 3, 120011006000L, NONE);
        judged(x, 2, 12006000L, 1);
        judged(x, 4, 1000100010006000L, 3);
        judged(x, 4, 1200110060005300L, 3);
        judged(x, 4, 1200110030004104L, NONE);
        judged(x, 4, 9999999999999999L, 0);
        judged(x, 2, 1000, 0);
        due("nothing is changed: LABELS", x.count(5), 36);
        due("nothing is changed: ACTS", x.count(7), 0);
        due("nothing is changed: wrong()", x.wrong(), 24);
        judged(x, 0, 0, OUTSIDE);
        judged(x, 5, 0, OUTSIDE);
        judged(x, -1, 0, OUTSIDE);
        judged(x, 1, -1, OUTSIDE);
        judged(x, 1, 10000, OUTSIDE);
        judged(x, 3, 1000000000000L, OUTSIDE);
        judged(x, 4, 10000000000000000L, OUTSIDE);
        judged(x, 4, Long.MAX_VALUE, OUTSIDE);
        judged(x, 4, Long.MIN_VALUE, OUTSIDE);
        judged(x, Integer.MAX_VALUE, 1, OUTSIDE);
        x = Due.program("QDbBb3OaOa");
        judged(x, 1, 7002, NONE);
        judged(x, 1, 7003, 0);
        judged(x, 1, 6000, NONE);
        judged(x, 1, 6100, 0);
        judged(x, 1, 6010, 0);
        judged(x, 1, 6001, 0);
        x = Due.program("QOaObOaOaOaOaOaOaOa");
        judged(x, 1, 4809, NONE);
        judged(x, 1, 7009, NONE);
        judged(x, 1, 4909, 0);
        judged(x, 2, 11006000, NONE);
    }

    private static void promises19To21Heard() {
        QuietLines x = Due.program("QObOc");
        int[][] bad = {{-1, 0, 0, 0}, {10, 0, 0, 0}, {0, -1, 0, 0}, {0, 9, 0, 0}, {0, 0, -1, 0}, {0, 0, 10, 0},
            {0, 0, 0, -1}, {0, 0, 0, 2}};
        for (int[] one : bad) {
            due("hear OUTSIDE", x.hear(one[0], one[1], one[2], one[3]), OUTSIDE);
        }
        due("hear(0, 0, 4, 1)", x.hear(0, 0, 4, 1), 1);
        due("secrets(0)", x.secrets(0), 10);
        due("secrets(1)", x.secrets(1), 40);
        due("hear(0, 1, 0, 0)", x.hear(0, 1, 0, 0), 2);
        due("secrets(0)", x.secrets(0), 9);
        due("secrets(1)", x.secrets(1), 41);
        due("hear(9, 8, 9, 0), there is none such", x.hear(9, 8, 9, 0), 3);
        due("secrets(0)", x.secrets(0), 9);
        x.tell(0, 5, 2, 0, 0, 0);
        due("secrets(1), the PROGRAM as it is", x.secrets(1), 4);
        x.undo();
        due("hear(0, 2, 3, 1)", x.hear(0, 2, 3, 1), 4);
        due("secrets(0) of none", x.secrets(0), 0);
        due("secrets(1) of none", x.secrets(1), NONE);
        due("hear number 5", x.hear(0, 0, 4, 1), 5);
        due("hear number 6", x.hear(0, 0, 4, 1), 6);
        due("hear number 7", x.hear(0, 0, 4, 1), FULL);
        due("hear OUTSIDE at 6", x.hear(0, 9, 4, 1), OUTSIDE);
        due("count(8)", x.count(8), 6);
        due("unhear()", x.unhear(), 6);
        due("unhear() again", x.unhear(), 0);
        due("secrets(0)", x.secrets(0), 100);
        due("secrets(2)", x.secrets(2), OUTSIDE);
        due("secrets(-1)", x.secrets(-1), OUTSIDE);
        x = Due.program("QSdabOd");
        x.hear(3, 0, 5, 1);
        due("b is 2: secrets(1)", x.secrets(1), 20);
        x.hear(4, 0, 6, 1);
        due("b is 2 by two values of a: secrets(0)", x.secrets(0), 10);
        x.hear(4, 0, 5, 1);
        due("b is 1, too: secrets(0)", x.secrets(0), 0);
    }

    private static void share(String program, int line, int a, int above, int below) {
        QuietLines x = Due.program(program);
        due(program + ": share(" + line + ", " + a + ", true)", x.share(line, a, true), above);
        due(program + ": share(" + line + ", " + a + ", false)", x.share(line, a, false), below);
    }

    private static void promise22Share() {
        share("QObOc", 0, 0, 99, 2);
        share("QObOc", 1, 9, 99, 2);
        share("QObOb", 1, 0, 9, 2);
        share("QOa", 0, 0, 0, 1);
        share("QOb", 0, 0, 9, 1);
        share("QObObObObOb", 4, 0, 9, 5);
        // of 24 orders: 6 gain 1, 2 gain 9, 4 lose 9, 2 gain 1
        share("QObBe3Bc6OcOeTb7Oe", 6, 0, -5, 12);
        share("QBa.Ob", 1, 0, 9, 1);
        share("QBa.Ob", 1, 1, 0, 1);
        for (boolean upper : new boolean[] {true, false}) {
            QuietLines x = Due.program("QObObObObObObDa");
            due("share: more than 5", x.share(0, 0, upper), FULL);
            due("share: no O, ahead of FULL", x.share(6, 0, upper), STATE);
            due("share: a, ahead of STATE", x.share(6, 10, upper), OUTSIDE);
            due("share: a", x.share(0, -1, upper), OUTSIDE);
            due("share: line, ahead of a", x.share(7, 10, upper), UNKNOWN);
            due("share: line", x.share(-1, 0, upper), UNKNOWN);
            due("share: no O, but K", Due.program("QKa1Ob").share(0, 0, upper), STATE);
        }
    }

    private static void muted(QuietLines x, int tenths, int above, int below) {
        due("muted(" + tenths + ", true)", x.muted(tenths, true), above);
        due("muted(" + tenths + ", false)", x.muted(tenths, false), below);
    }

    private static void promise23Muted() {
        QuietLines x = Due.program("QObOcOa");
        muted(x, 0, 0, 1);
        muted(x, 2, 1, 25);
        muted(x, 3, 9, 100);
        muted(x, 5, 1, 4);
        muted(x, 10, 1, 1);
        muted(x, 11, OUTSIDE, OUTSIDE);
        muted(x, -1, OUTSIDE, OUTSIDE);
        muted(Due.program("QOa"), 0, 1, 1);
        muted(Due.program("QOa"), 7, 1, 1);
        QuietLines nine = Due.program("QObObObObObObObObOb");
        muted(nine, 3, 19683, 1000000000);
        muted(nine, 7, 40353607, 1000000000);
        muted(nine, 9, 387420489, 1000000000);
        muted(nine, 8, 262144, 1953125);
        muted(nine, 10, 1, 1);
        muted(nine, 0, 0, 1);
    }

    private static void promises24And25Seed() {
        QuietLines x = Due.program("QOaObOc");
        due("seed(0)", x.seed(0), 0);
        // by 0: 7, 7, 1, then 4, 6, 1, then 7, 1, 0
        due("drawn(1)", x.drawn(1), 3 + 15);
        due("drawn(2)", x.drawn(2), 3 + 11 + 3 + 8);
        due("THE SEED", x.seed(-1), -7280499659394350823L);
        // by -1: 8, 0, 5, then 3, 1, 0, then 7, 7, 7
        due("drawn(3)", x.drawn(3), 3 + 13 + 3 + 4 + 3 + 21);
        due("drawn(0)", x.drawn(0), OUTSIDE);
        due("drawn(21)", x.drawn(21), OUTSIDE);
        due("drawn(-1)", x.drawn(-1), OUTSIDE);
        due("refused: THE SEED", x.seed(Long.MIN_VALUE), -8074375053307979740L);
        due("THE SEED", x.seed(Long.MAX_VALUE), Long.MIN_VALUE);
        QuietLines failing = Due.program("QKd1OdTd.");
        due("drawn(20) of FAILURES", failing.drawn(20), 20 * 102);
        QuietLines silent = new QuietLines();
        due("drawn(20) without LINES", silent.drawn(20), 0);
    }

    private static void promises26And27Slots() {
        QuietLines x = Due.program("QObOc");
        due("keep(2)", x.keep(2), UNKNOWN);
        due("keep(-1)", x.keep(-1), UNKNOWN);
        due("again(2)", x.again(2), UNKNOWN);
        due("again(-1)", x.again(-1), UNKNOWN);
        due("again(0), none", x.again(0), STATE);
        x.relabel(1, 3);
        due("keep(0)", x.keep(0), 2);
        due("keep leaves ACTS", x.count(7), 1);
        x.tell(0, 2, 0, 1, 2, -1);
        x.relabel(0, 2);
        due("keep(1)", x.keep(1), 2);
        x.hear(0, 0, 0, 0);
        x.seed(9);
        due("again(0)", x.again(0), 2);
        line(x, 0, 5, 1, NONE, NONE, NONE);
        due("LABELS as kept", x.count(5), 12 + 32);
        due("ACTS are none", x.count(7), 0);
        due("undo()", x.undo(), STATE);
        due("HEARD stays", x.count(8), 1);
        due("THE SEED stays", x.seed(9), 9);
        x.tell(1, 6, 0, 0, 0, 0);
        due("again(0), once more", x.again(0), 2);
        line(x, 1, 5, 2, NONE, NONE, NONE);
        due("again(1)", x.again(1), 2);
        line(x, 0, 2, 0, 1, 2, -1);
        due("LABELS as kept", x.count(5), 2 + 12 + 32);
        due("keep(0), over what was kept", x.keep(0), 2);
        x.relabel(0, 0);
        due("again(0)", x.again(0), 2);
        due("LABELS as kept", x.count(5), 2 + 12 + 32);
    }

    private static void promise28Count() {
        QuietLines x = Due.program("QObDaBb5DbOaOaKa1");
        x.relabel(0, 1);
        x.relabel(2, 3);
        x.relabel(1, 2);
        x.hear(0, 0, 0, 0);
        x.hear(0, 0, 0, 0);
        x.write('O');
        int[] want = {18, 7, 127, 3, 2, 1 + 8 + 48, 0, 3, 2};
        for (int what = 0; what < want.length; what++) {
            due("count(" + what + ")", x.count(what), want[what]);
        }
        due("count(9)", x.count(9), OUTSIDE);
        for (int what : FAR) {
            due("count(" + what + ")", x.count(what), OUTSIDE);
        }
        due("count(6) of a QUIET one", Due.program("QDbOb").count(6), 1);
    }
}
