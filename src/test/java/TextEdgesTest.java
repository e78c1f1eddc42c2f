/** THE TEXT and THE PROGRAM at their boundaries, sentence by sentence (promises 1 to 6). */
public final class TextEdgesTest {
    private static final int UNKNOWN = Due.UNKNOWN, OUTSIDE = Due.OUTSIDE, STATE = Due.STATE, FULL = Due.FULL;
    private static final int NONE = Due.NONE;
    private static final String KINDS = "KSVBTOD", VARIABLES = "abcde", FIGURES = "0123456789";

    private TextEdgesTest() {
    }

    public static void main(String[] args) {
        noLines();
        letters();
        fortyEight();
        wiped();
        noneOrMoreLines();
        numberedAsTold();
        eachLetterAtEachPlace();
        targetsOfEachLine();
        firstLetterByWhich();
        lengthSetAside();
        onlyNotAtItsEnd();
        targetBehindTheLines();
        programs();
        programByAFault();
        programKeepsAndLoses();
        partsOfALine();
        refusedParts();
        Due.end();
    }

    private static void due(String call, long got, long want) {
        Due.due(call, got, want);
    }

    private static void fault(String text, int want) {
        due("fault() of " + text, Due.text(text).fault(), want);
    }

    private static void noLines() {
        Due.says("`QuietLines()`: No lines.");
        QuietLines x = new QuietLines();
        due("count(1)", x.count(1), 0);
        due("line(0, 0)", x.line(0, 0), UNKNOWN);
        due("tell(0, ..)", x.tell(0, 5, 0, 0, 0, 0), UNKNOWN);
        due("label(0, 0)", x.label(0, 0), UNKNOWN);
        due("context(0, 1)", x.context(0, 1), UNKNOWN);
        due("share(0, 0, true)", x.share(0, 0, true), UNKNOWN);
        due("share(0, 0, false)", x.share(0, 0, false), UNKNOWN);
        Due.says("At first there is no LINE.");
        due("count(2)", x.count(2), 0);
        due("wrong()", x.wrong(), 0);
        due("keep(0)", x.keep(0), 0);
        Due.says("At first a, b, c are inputs, of LABELS 0, 1, 2; d and e are 0, of LABEL 0.");
        due("count(5)", x.count(5), 0 + 4 * 1 + 16 * 2);
        due("ends(9, 9, 9, 2)", x.ends(9, 9, 9, 2), 0);
        QuietLines five = Due.program("QOaObOcOdOe");
        int[] labels = {0, 1, 2, 0, 0};
        for (int v = 0; v < 5; v++) {
            due("label(0, " + v + ")", five.label(0, v), labels[v]);
        }
        Due.spoken("QOaObOcOdOe", 9, 9, 9, 9, 9, 9, 0, 0);
    }

    private static void letters() {
        Due.says("A letter (0 to 255) comes behind THE TEXT: how long it is. OUTSIDE;");
        QuietLines x = new QuietLines();
        due("write(-1)", x.write(-1), OUTSIDE);
        due("write(256)", x.write(256), OUTSIDE);
        due("write('Q' + 256)", x.write('Q' + 256), OUTSIDE);
        due("write('Q' - 256)", x.write('Q' - 256), OUTSIDE);
        for (int far : Due.FAR) {
            due("write(" + far + ")", x.write(far), OUTSIDE);
        }
        due("count(0) behind refusals", x.count(0), 0);
        due("write(0)", x.write(0), 1);
        due("write(1)", x.write(1), 2);
        due("write(254)", x.write(254), 3);
        due("write(255)", x.write(255), 4);
        due("count(0)", x.count(0), 4);
        // a letter is taken whole: one that is 128 more is another one
        due("fault() of a Q that is 128 more", Due.text("" + (char) ('Q' + 128)).fault(), 0);
        due("fault() of an a that is 128 more", Due.text("QO" + (char) ('a' + 128)).fault(), 2);
    }

    private static void fortyEight() {
        Due.says("FULL: there are 48.");
        QuietLines x = new QuietLines();
        due("write(256) at 0", x.write(256), OUTSIDE);
        for (int i = 1; i <= 48; i++) {
            due("write number " + i, x.write(i == 1 ? 'Q' : 'x'), i);
        }
        for (int i = 0; i < 3; i++) {
            due("write at 48", x.write('Q'), FULL);
        }
        due("write(0) at 48", x.write(0), FULL);
        due("write(255) at 48", x.write(255), FULL);
        due("write(256) at 48, OUTSIDE is named first", x.write(256), OUTSIDE);
        due("write(-1) at 48, OUTSIDE is named first", x.write(-1), OUTSIDE);
        due("count(0)", x.count(0), 48);
        due("fault()", x.fault(), 1);
        Due.says("THE TEXT is letters (48 at most).");
        due("wipe() at 48", x.wipe(), 48);
        due("write behind it", x.write('Q'), 1);
        due("program() behind it", x.program(), 0);
    }

    private static void wiped() {
        Due.says("THE TEXT is empty: how long it was.");
        QuietLines x = new QuietLines();
        due("wipe() of none", x.wipe(), 0);
        x.write('Q');
        due("wipe() of one", x.wipe(), 1);
        due("count(0)", x.count(0), 0);
        due("fault()", x.fault(), 0);
        due("program()", x.program(), STATE);
        Due.write(x, "QOaOb");
        due("program()", x.program(), 2);
        due("wipe() of five", x.wipe(), 5);
        due("wipe() again", x.wipe(), 0);
        due("THE PROGRAM stays", x.count(1), 2);
        x.write('Q');
        due("letters that were wiped do not come back", x.program(), 0);
    }

    private static String lines(int many) {
        return "Oa".repeat(many);
    }

    private static void noneOrMoreLines() {
        Due.says("Q, then LINES, none or more (9 at most)");
        for (int many = 0; many <= 9; many++) {
            QuietLines x = Due.text("Q" + lines(many));
            due(many + " LINES: fault()", x.fault(), NONE);
            due(many + " LINES: program()", x.program(), many);
            due(many + " LINES: count(1)", x.count(1), many);
        }
        for (char kind : KINDS.toCharArray()) {
            fault("Q" + lines(8) + kind, 18);
            fault("Q" + lines(9) + kind, 19);
        }
        fault("Q" + lines(10), 19);
        due("program() of 10 LINES", Due.text("Q" + lines(10)).program(), STATE);
        fault(lines(1), 0);
        fault("OQ", 0);
        fault("QQ", 1);
    }

    private static void numberedAsTold() {
        Due.says("numbered 0, 1, .. as they are told");
        QuietLines x = Due.program("QKa0Ka1Ka2Ka3Ka4Ka5Ka6Ka7Ka8");
        for (int line = 0; line < 9; line++) {
            Due.line(x, line, 0, 0, line, NONE, NONE);
        }
        due("line(9, 0)", x.line(9, 0), UNKNOWN);
        due("line(-1, 0)", x.line(-1, 0), UNKNOWN);
    }

    /** All 256 letters behind these: by those that can stand there FAULT is as told, by all others their place. */
    private static void behind(String letters, String can, int fault) {
        for (int letter = 0; letter < 256; letter++) {
            fault(letters + (char) letter, can.indexOf(letter) >= 0 ? fault : letters.length());
        }
    }

    private static void eachLetterAtEachPlace() {
        Due.says("x, y, z a VARIABLE, a to e; v a figure;");
        behind("", "Q", NONE);
        behind("Q", KINDS, 2);
        behind("QK", VARIABLES, 3);
        behind("QKa", FIGURES, NONE);
        behind("QS", VARIABLES, 3);
        behind("QSe", VARIABLES, 4);
        behind("QSea", VARIABLES, NONE);
        behind("QV", VARIABLES, 3);
        behind("QVe", VARIABLES, 4);
        behind("QVea", VARIABLES, 5);
        behind("QB", VARIABLES, 3);
        behind("QT", VARIABLES, 3);
        behind("QO", VARIABLES, NONE);
        behind("QD", VARIABLES, NONE);
        behind("QKa9", KINDS, 5);
        behind("QSabc", KINDS, 6);
        behind("QVabc.", KINDS, 7);
        behind("QVabc1", KINDS, 7);
        behind("QOe", KINDS, 4);
        Due.says("or a full stop");
        behind("Q" + lines(8) + "Ba", "9.", NONE);
        behind("Q" + lines(8) + "Ta", "9.", NONE);
        behind("Q" + lines(8) + "Vabc", "9.", NONE);
        behind("Q" + lines(9), "", 0);
    }

    private static void targetsOfEachLine() {
        Due.says("t a figure that is more than the number of its LINE");
        for (String kind : new String[] {"Vabc", "Be", "Te"}) {
            for (int line = 0; line < 9; line++) {
                String ahead = "Q" + lines(line) + kind;
                for (int t = 0; t <= 9; t++) {
                    int want = t <= line ? ahead.length() : t == line + 1 ? NONE : ahead.length() + 1;
                    fault(ahead + t, want);
                }
                fault(ahead + ".", NONE);
                fault(ahead + "/", ahead.length());
                fault(ahead + ":", ahead.length());
                fault(ahead + "-", ahead.length());
            }
        }
    }

    private static void firstLetterByWhich() {
        Due.says("the place of the first letter by which THE TEXT can be no PROGRAM, whatever came behind it");
        for (String behind : new String[] {"", "Q", "Oa", "9", ".", "OaOaOa", "xyz", "\0"}) {
            fault("x" + behind, 0);
            fault("Qx" + behind, 1);
            fault("QKf" + behind, 2);
            fault("QKa." + behind, 3);
            fault("QBa0" + behind, 3);
            fault("QOaTb1" + behind, 5);
            fault("QBa9x" + behind, 4);
            fault("Q" + lines(9) + "O" + behind, 19);
        }
        due("fault() changes nothing", Due.text("QOa").fault(), NONE);
        QuietLines x = Due.text("QOb");
        x.fault();
        x.write('x');
        due("fault() behind one more letter", x.fault(), 3);
        due("count(0)", x.count(0), 4);
        due("count(1)", x.count(1), 0);
    }

    private static void lengthSetAside() {
        Due.says("(its length set aside; so a t that is not more than the number of its LINE)");
        String eight = "Q" + "Vabc9".repeat(8);
        fault(eight, 41);
        fault(eight + "V", 42);
        fault(eight + "Vabc", 45);
        fault(eight + "Vabc9", NONE);
        fault(eight + "Vabc9V", 46);
        fault(eight + "Vabc9Va", 46);
        fault(eight + "Vabc8", 45);
        fault(eight + "Vabc8xx", 45);
        due("program() of 46 letters", Due.text(eight + "Vabc9").program(), 9);
    }

    private static void onlyNotAtItsEnd() {
        Due.says("its length, if it is only not at its end");
        fault("", 0);
        String whole = "QKe7SabcVdeb.Ba.Tb.OcDd";
        String ends = " 1 4 8 13 16 19 21 23 ";
        for (int length = 1; length <= whole.length(); length++) {
            fault(whole.substring(0, length), ends.contains(" " + length + " ") ? NONE : length);
        }
        Due.says("NONE: none.");
        fault("Q", NONE);
        fault(whole, NONE);
    }

    private static void targetBehindTheLines() {
        Due.says("(as long as a t is more than the number of LINES, it is not)");
        for (int t = 1; t <= 9; t++) {
            for (int more = 0; more <= 8; more++) {
                String text = "QBa" + t + lines(more);
                fault(text, t > more + 1 ? text.length() : NONE);
                due("program() of " + text, Due.text(text).program(), t > more + 1 ? STATE : more + 1);
            }
        }
        fault("QBa3Ba4Oa", 9);
        fault("QBa4Ba3Oa", 9);
        fault("QBa4Ba3OaO", 10);
        fault("QBa4Ba3OaOa", NONE);
        fault("QBa2Ba.", NONE);
    }

    private static void programs() {
        Due.says("THE TEXT is THE PROGRAM");
        QuietLines x = Due.text("QOaObOcOdOeOaObOcOd");
        due("program() of 9", x.program(), 9);
        due("THE TEXT stays: count(0)", x.count(0), 19);
        due("program() again", x.program(), 9);
        x.wipe();
        Due.write(x, "QDa");
        due("program() of 1", x.program(), 1);
        Due.line(x, 0, 6, 0, NONE, NONE, NONE);
        due("line(1, 0) is gone", x.line(1, 0), UNKNOWN);
        due("label(1, 0) is gone", x.label(1, 0), UNKNOWN);
        due("wrong()", x.wrong(), 0);
        x.wipe();
        x.write('Q');
        due("program() of none", x.program(), 0);
        due("line(0, 0) is gone", x.line(0, 0), UNKNOWN);
        due("count(1)", x.count(1), 0);
        x.write('x');
        due("THE TEXT changes, THE PROGRAM not", x.count(1), 0);
    }

    private static void programByAFault() {
        Due.says("STATE: a FAULT.");
        for (String text : new String[] {"", "x", "QO", "QX", "QBa0", "QBa2", "QOaOa ", "Q" + lines(9) + "Oa"}) {
            QuietLines x = Due.program("QObOc");
            x.wipe();
            Due.write(x, text);
            due("program() of " + text, x.program(), STATE);
            due("LINES stay", x.count(1), 2);
            Due.line(x, 1, 5, 2, NONE, NONE, NONE);
            due("THE TEXT stays", x.count(0), text.length());
        }
    }

    private static void programKeepsAndLoses() {
        Due.says("(inputs are LABELLED as at first, THE ROW of ACTS is empty, what was kept is gone; HEARD, THE SEED stay)");
        QuietLines x = Due.program("QObOa");
        x.keep(0);
        x.keep(1);
        for (int i = 0; i < 6; i++) {
            x.hear(0, 0, i, 0);
        }
        x.seed(Long.MIN_VALUE);
        for (int i = 0; i < 3; i++) {
            x.relabel(i, 3);
            x.tell(0, 0, 0, i, 0, 0);
        }
        due("program()", x.program(), 2);
        due("LABELS", x.count(5), 36);
        due("ACTS", x.count(7), 0);
        due("undo()", x.undo(), STATE);
        due("again(0)", x.again(0), STATE);
        due("again(1)", x.again(1), STATE);
        due("HEARD", x.count(8), 6);
        due("secrets(0)", x.secrets(0), 40);
        due("THE SEED", x.seed(0), Long.MIN_VALUE);
        Due.line(x, 0, 5, 1, NONE, NONE, NONE);
    }

    private static void partsOfALine() {
        Due.says("Of a LINE its KIND (what = 0), x (1; 0 to 4), y (2; K: v; none: NONE), z (3; NONE), t (4; a full stop: -1; "
                + "none: NONE).");
        QuietLines x = Due.program("QKa0Ke9SaeeSeaaVaea9Veae.Ba9Te.Oe");
        Due.line(x, 0, 0, 0, 0, NONE, NONE);
        Due.line(x, 1, 0, 4, 9, NONE, NONE);
        Due.line(x, 2, 1, 0, 4, 4, NONE);
        Due.line(x, 3, 1, 4, 0, 0, NONE);
        Due.line(x, 4, 2, 0, 4, 0, 9);
        Due.line(x, 5, 2, 4, 0, 4, -1);
        Due.line(x, 6, 3, 0, NONE, NONE, 9);
        Due.line(x, 7, 4, 4, NONE, NONE, -1);
        Due.line(x, 8, 5, 4, NONE, NONE, NONE);
        for (int v = 0; v < 5; v++) {
            Due.line(Due.program("QD" + VARIABLES.charAt(v)), 0, 6, v, NONE, NONE, NONE);
        }
        Due.line(Due.program("QBc1"), 0, 3, 2, NONE, NONE, 1);
        Due.line(Due.program("QTd1"), 0, 4, 3, NONE, NONE, 1);
    }

    private static void refusedParts() {
        Due.says("none: NONE). UNKNOWN; OUTSIDE.");
        for (int many = 0; many <= 9; many++) {
            QuietLines x = Due.program("Q" + lines(9));
            x.wipe();
            Due.write(x, "Q" + lines(many));
            x.program();
            due(many + " LINES: line(-1, 0)", x.line(-1, 0), UNKNOWN);
            due(many + " LINES: line(many - 1, 0)", x.line(many - 1, 0), many == 0 ? UNKNOWN : 5);
            due(many + " LINES: line(many, 0)", x.line(many, 0), UNKNOWN);
            due(many + " LINES: line(many, 5), UNKNOWN is named first", x.line(many, 5), UNKNOWN);
            due(many + " LINES: line(-1, -1), UNKNOWN is named first", x.line(-1, -1), UNKNOWN);
        }
        QuietLines x = Due.program("QVabc.");
        due("line(0, -1)", x.line(0, -1), OUTSIDE);
        due("line(0, 0)", x.line(0, 0), 2);
        due("line(0, 4)", x.line(0, 4), -1);
        due("line(0, 5)", x.line(0, 5), OUTSIDE);
        for (int far : Due.FAR) {
            due("line(" + far + ", 0)", x.line(far, 0), UNKNOWN);
            due("line(0, " + far + ")", x.line(0, far), OUTSIDE);
            due("line(" + far + ", " + far + ")", x.line(far, far), UNKNOWN);
        }
    }
}
