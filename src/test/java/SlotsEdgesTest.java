/** SLOTS and what is counted at their boundaries, sentence by sentence (promises 26 to 28). */
public final class SlotsEdgesTest {
    private static final int UNKNOWN = Due.UNKNOWN, OUTSIDE = Due.OUTSIDE, STATE = Due.STATE, NONE = Due.NONE;

    private SlotsEdgesTest() {
    }

    public static void main(String[] args) {
        whichSlot();
        noneWereKept();
        keptOnes();
        actsWhenOneGoesOn();
        keptOverWhatWasKept();
        goneByAProgram();
        whatStays();
        lettersCounted();
        linesCounted();
        speakersAndFreeOnes();
        labelsCounted();
        quietCounted();
        actsAndHeardCounted();
        refusedCounts();
        Due.end();
    }

    private static void due(String call, long got, long want) {
        Due.due(call, got, want);
    }

    private static void whichSlot() {
        Due.says("SLOTS 0 to 1 keep LINES, LABELS of inputs");
        QuietLines x = Due.program("QOa");
        for (int slot : new int[] {Integer.MIN_VALUE, -2, -1, 2, 3, Integer.MAX_VALUE}) {
            due("keep(" + slot + ")", x.keep(slot), UNKNOWN);
            due("again(" + slot + ")", x.again(slot), UNKNOWN);
        }
        due("again(0) behind refused ones", x.again(0), STATE);
        due("again(1) behind refused ones", x.again(1), STATE);
        due("keep(0)", x.keep(0), 1);
        due("keep(1)", x.keep(1), 1);
        due("again(0)", x.again(0), 1);
        due("again(1)", x.again(1), 1);
        for (int slot : new int[] {-1, 2}) {
            due("both kept: again(" + slot + ")", x.again(slot), UNKNOWN);
        }
    }

    private static void noneWereKept() {
        Due.says("They are as they were kept: how many LINES. UNKNOWN; STATE: none were kept.");
        QuietLines x = new QuietLines();
        due("again(0)", x.again(0), STATE);
        due("again(1)", x.again(1), STATE);
        due("keep(1), no LINE", x.keep(1), 0);
        due("again(0), the other one", x.again(0), STATE);
        due("again(1), no LINE but kept", x.again(1), 0);
        // a refused one leaves LINES, LABELS and ACTS as they are
        Due.write(x, "QOaOb");
        x.program();
        x.relabel(0, 3);
        x.tell(0, 6, 0, 0, 0, 0);
        due("again(1), gone", x.again(1), STATE);
        due("again(2)", x.again(2), UNKNOWN);
        due("ACTS", x.count(7), 2);
        due("LABELS", x.count(5), 3 + 36);
        Due.line(x, 0, 6, 0, NONE, NONE, NONE);
        due("undo()", x.undo(), 1);
    }

    private static void keptOnes() {
        Due.says("They are kept: how many LINES. UNKNOWN.");
        for (int many = 0; many <= 9; many++) {
            QuietLines x = Due.program("Q" + "Ob".repeat(many));
            due("keep(0) of " + many, x.keep(0), many);
            for (int line = 0; line < many; line++) {
                x.tell(line, 2, 0, 1, 2, -1);
            }
            due("keep(1) of " + many, x.keep(1), many);
            due("again(0) of " + many, x.again(0), many);
            for (int line = 0; line < many; line++) {
                Due.line(x, line, 5, 1, NONE, NONE, NONE);
            }
            due("again(1) of " + many, x.again(1), many);
            for (int line = 0; line < many; line++) {
                Due.line(x, line, 2, 0, 1, 2, -1);
            }
            due("line behind the last", x.line(many, 0), UNKNOWN);
        }
        QuietLines x = Due.program("QOb");
        for (int all = 0; all < 64; all += 21) {
            x.relabel(0, all & 3);
            x.relabel(1, all >> 2 & 3);
            x.relabel(2, all >> 4 & 3);
            x.keep(0);
            x.relabel(0, 1);
            x.relabel(1, 2);
            x.relabel(2, 0);
            x.again(0);
            due("LABELS as kept", x.count(5), all);
        }
    }

    private static void actsWhenOneGoesOn() {
        Due.says("(THE ROW of ACTS is empty when one goes on)");
        QuietLines x = Due.program("QKa0");
        x.tell(0, 0, 0, 1, 0, 0);
        x.keep(0);
        due("keep leaves ACTS", x.count(7), 1);
        due("undo() behind keep", x.undo(), 0);
        due("v", x.line(0, 2), 0);
        for (int i = 0; i < 14; i++) {
            x.tell(0, 0, 0, 2, 0, 0);
        }
        due("again(0)", x.again(0), 1);
        due("v as kept", x.line(0, 2), 1);
        due("ACTS", x.count(7), 0);
        due("undo()", x.undo(), STATE);
        due("v as kept", x.line(0, 2), 1);
        // what was kept is not changed by what comes behind it
        x.tell(0, 0, 0, 9, 0, 0);
        x.relabel(2, 0);
        due("again(0)", x.again(0), 1);
        due("v as kept", x.line(0, 2), 1);
        due("LABELS as kept", x.count(5), 36);
    }

    private static void keptOverWhatWasKept() {
        QuietLines x = Due.program("QKa0");
        x.keep(0);
        x.tell(0, 0, 0, 1, 0, 0);
        x.keep(1);
        x.tell(0, 0, 0, 2, 0, 0);
        x.keep(0);
        x.tell(0, 0, 0, 3, 0, 0);
        due("again(0)", x.again(0), 1);
        due("v as kept last", x.line(0, 2), 2);
        due("again(1)", x.again(1), 1);
        due("v as kept", x.line(0, 2), 1);
        x.keep(0);
        due("again(0)", x.again(0), 1);
        due("v as kept from the other one", x.line(0, 2), 1);
    }

    private static void goneByAProgram() {
        Due.says("what was kept is gone;");
        QuietLines x = Due.program("QOa");
        x.keep(0);
        x.keep(1);
        x.write('x');
        due("program() by a FAULT", x.program(), STATE);
        due("it is not gone: again(0)", x.again(0), 1);
        due("it is not gone: again(1)", x.again(1), 1);
        x.wipe();
        x.write('Q');
        due("program()", x.program(), 0);
        due("it is gone: again(0)", x.again(0), STATE);
        due("it is gone: again(1)", x.again(1), STATE);
        due("keep(0)", x.keep(0), 0);
        due("again(0)", x.again(0), 0);
        due("again(1)", x.again(1), STATE);
    }

    private static void whatStays() {
        Due.says("kept and gone on from.");
        QuietLines x = Due.program("QOb");
        x.keep(0);
        x.hear(0, 0, 3, 1);
        x.seed(11);
        x.write('O');
        due("again(0)", x.again(0), 1);
        due("HEARD", x.count(8), 1);
        due("secrets(1)", x.secrets(1), 30);
        due("THE TEXT", x.count(0), 4);
        due("THE SEED", x.seed(12), 11);
        due("keep(0)", x.keep(0), 1);
        due("THE SEED", x.seed(13), 12);
    }

    private static void lettersCounted() {
        Due.says("0 letters of THE TEXT");
        QuietLines x = new QuietLines();
        for (int many = 0; many <= 48; many++) {
            due("count(0)", x.count(0), many);
            x.write(255);
        }
        due("count(0) behind a refused one", x.count(0), 48);
        x.wipe();
        due("count(0) behind wipe()", x.count(0), 0);
    }

    private static void linesCounted() {
        Due.says("1 LINES, 2 which are REACHED (bits)");
        for (int many = 0; many <= 9; many++) {
            QuietLines x = Due.program("Q" + "Ba.".repeat(many));
            due("count(1)", x.count(1), many);
            due("count(2)", x.count(2), (1 << many) - 1);
        }
        // THE TEXT that is not yet THE PROGRAM counts for nothing
        QuietLines x = Due.text("QOa");
        due("count(1)", x.count(1), 0);
        due("count(2)", x.count(2), 0);
        due("count(3)", x.count(3), 0);
    }

    private static void speakersAndFreeOnes() {
        Due.says("3 LINES O, 4 LINES D that are REACHED");
        for (int many = 0; many <= 9; many++) {
            QuietLines x = Due.program("Q" + "Oa".repeat(many) + "Da".repeat(9 - many));
            due("count(3)", x.count(3), many);
            due("count(4)", x.count(4), 9 - many);
        }
        QuietLines x = Due.program("QKa1SabcVabc.Ba.Ta.OaDa");
        due("count(3) of each KIND", x.count(3), 1);
        due("count(4) of each KIND", x.count(4), 1);
        x.tell(6, 5, 0, 0, 0, 0);
        due("count(3), a D told as O", x.count(3), 2);
        due("count(4), a D told as O", x.count(4), 0);
        x.undo();
        due("count(4), undone", x.count(4), 1);
    }

    private static void labelsCounted() {
        Due.says("5 LABELS of a, b, c (1, 4, 16 times)");
        QuietLines x = new QuietLines();
        for (int all = 0; all < 64; all++) {
            x.relabel(0, all & 3);
            x.relabel(1, all >> 2 & 3);
            x.relabel(2, all >> 4 & 3);
            due("count(5)", x.count(5), all);
        }
    }

    private static void quietCounted() {
        Due.says("6 1 if THE PROGRAM is QUIET");
        due("no LINE", new QuietLines().count(6), 1);
        due("QOa", Due.program("QOa").count(6), 1);
        due("QOb", Due.program("QOb").count(6), 0);
        QuietLines x = Due.program("QOb");
        x.relabel(1, 0);
        due("b open", x.count(6), 1);
        x.undo();
        due("b secret", x.count(6), 0);
        x.tell(0, 6, 1, 0, 0, 0);
        due("b given FREE", x.count(6), 1);
    }

    private static void actsAndHeardCounted() {
        Due.says("7 ACTS in the row, 8 HEARD. OUTSIDE.");
        QuietLines x = new QuietLines();
        for (int many = 0; many <= 20; many++) {
            due("count(7)", x.count(7), Math.min(many, 14));
            due("count(8)", x.count(8), Math.min(many, 6));
            x.relabel(0, many % 4);
            x.hear(0, 0, 0, 0);
        }
        x.undo();
        x.unhear();
        due("count(7)", x.count(7), 13);
        due("count(8)", x.count(8), 0);
    }

    private static void refusedCounts() {
        QuietLines x = Due.program("QOb");
        due("count(-1)", x.count(-1), OUTSIDE);
        due("count(0)", x.count(0), 3);
        due("count(8)", x.count(8), 0);
        due("count(9)", x.count(9), OUTSIDE);
        for (int far : Due.FAR) {
            due("count(" + far + ")", x.count(far), OUTSIDE);
        }
        due("count(9), no LINE", new QuietLines().count(9), OUTSIDE);
        due("count(-1), no LINE", new QuietLines().count(-1), OUTSIDE);
    }
}
