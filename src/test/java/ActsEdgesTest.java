/** ACTS at their boundaries, sentence by sentence (promises 7 to 9). */
public final class ActsEdgesTest {
    private static final int UNKNOWN = Due.UNKNOWN, OUTSIDE = Due.OUTSIDE, STATE = Due.STATE, NONE = Due.NONE;
    private static final int K = 0, S = 1, V = 2, B = 3, T = 4, O = 5, D = 6;

    private ActsEdgesTest() {
    }

    public static void main(String[] args) {
        kindAsItWas();
        whichLine();
        whichKind();
        whichVariables();
        figureOfK();
        partsThatItHasNot();
        targets();
        firstRefusalOfTell();
        labelled();
        whichInput();
        whichLabel();
        fourteenActs();
        forgottenOnes();
        roomByUndo();
        allIsAsItWas();
        noneToUndo();
        Due.end();
    }

    private static void due(String call, long got, long want) {
        Due.due(call, got, want);
    }

    /** A LINE is told by KIND, x, y, z, t; the answer is this. */
    private static void tell(QuietLines x, int want, int line, int... to) {
        String call = "tell(" + line + ", " + to[0] + ", " + to[1] + ", " + to[2] + ", " + to[3] + ", " + to[4] + ")";
        due(call, x.tell(line, to[0], to[1], to[2], to[3], to[4]), want);
    }

    private static boolean has(int kind, int part) {
        String[] parts = {"xy", "xyz", "xyzt", "xt", "xt", "x", "x"};
        return parts[kind].indexOf("xyzt".charAt(part - 1)) >= 0;
    }

    /** A LINE 1 of three that is as it must be, by KIND. */
    private static int[] lineOf(int kind) {
        int[] to = {kind, 1, 0, 0, 0};
        if (has(kind, 4)) {
            to[4] = 2;
        }
        return to;
    }

    private static void kindAsItWas() {
        Due.says("(those that it has not are 0): its KIND as it was.");
        QuietLines x = Due.program("QOaObOc");
        int was = O;
        for (int kind = K; kind <= D; kind++) {
            for (int next = K; next <= D; next++) {
                tell(x, was, 1, lineOf(kind));
                tell(x, kind, 1, lineOf(next));
                was = next;
            }
        }
        tell(x, D, 1, K, 4, 9, 0, 0);
        Due.line(x, 1, K, 4, 9, NONE, NONE);
        tell(x, K, 1, S, 4, 3, 2, 0);
        Due.line(x, 1, S, 4, 3, 2, NONE);
        tell(x, S, 1, V, 0, 1, 2, 3);
        Due.line(x, 1, V, 0, 1, 2, 3);
        tell(x, V, 1, B, 3, 0, 0, -1);
        Due.line(x, 1, B, 3, NONE, NONE, -1);
        tell(x, B, 1, T, 2, 0, 0, 2);
        Due.line(x, 1, T, 2, NONE, NONE, 2);
        tell(x, T, 1, O, 1, 0, 0, 0);
        Due.line(x, 1, O, 1, NONE, NONE, NONE);
        tell(x, O, 1, D, 4, 0, 0, 0);
        Due.line(x, 1, D, 4, NONE, NONE, NONE);
        Due.line(x, 0, O, 0, NONE, NONE, NONE);
        Due.line(x, 2, O, 2, NONE, NONE, NONE);
    }

    private static void whichLine() {
        Due.says("UNKNOWN: line; OUTSIDE: kind, x, y, z, t.");
        for (int many = 0; many <= 9; many++) {
            QuietLines x = Due.program("Q" + "Ob".repeat(many));
            tell(x, UNKNOWN, -1, O, 0, 0, 0, 0);
            tell(x, UNKNOWN, many, O, 0, 0, 0, 0);
            due("refused: ACTS", x.count(7), 0);
            if (many > 0) {
                tell(x, O, many - 1, D, 0, 0, 0, 0);
                Due.line(x, many - 1, D, 0, NONE, NONE, NONE);
                tell(x, many == 1 ? D : O, 0, K, 0, 0, 0, 0);
            }
        }
        QuietLines x = Due.program("QOa");
        for (int far : Due.FAR) {
            tell(x, UNKNOWN, far, O, 0, 0, 0, 0);
        }
    }

    private static void whichKind() {
        QuietLines x = Due.program("QOaObOc");
        tell(x, OUTSIDE, 1, -1, 0, 0, 0, 0);
        tell(x, OUTSIDE, 1, 7, 0, 0, 0, 0);
        tell(x, OUTSIDE, 1, 8, 0, 0, 0, 2);
        for (int far : Due.FAR) {
            tell(x, OUTSIDE, 1, far, 0, 0, 0, 0);
        }
        Due.line(x, 1, O, 1, NONE, NONE, NONE);
        due("refused: ACTS", x.count(7), 0);
        tell(x, O, 1, K, 0, 0, 0, 0);
        tell(x, K, 1, D, 0, 0, 0, 0);
    }

    private static void whichVariables() {
        Due.says("VARIABLES are 0 to 4 (a to e), each has a value 0 to 9.");
        for (int kind = K; kind <= D; kind++) {
            for (int part = 1; part <= 3; part++) {
                if (!has(kind, part) || kind == K && part == 2) {
                    continue;
                }
                QuietLines x = Due.program("QOaObOc");
                int[] to = lineOf(kind);
                for (int wrong : new int[] {-1, 5, 9, Integer.MIN_VALUE, Integer.MAX_VALUE}) {
                    to[part] = wrong;
                    tell(x, OUTSIDE, 1, to);
                }
                Due.line(x, 1, O, 1, NONE, NONE, NONE);
                for (int right = 0; right <= 4; right++) {
                    to[part] = right;
                    tell(x, right == 0 ? O : kind, 1, to);
                    due("line(1, " + part + ")", x.line(1, part), right);
                }
            }
        }
    }

    private static void figureOfK() {
        Due.says("TOLD, by KIND and x, y (K: v), z, t");
        QuietLines x = Due.program("QOa");
        tell(x, OUTSIDE, 0, K, 0, -1, 0, 0);
        tell(x, OUTSIDE, 0, K, 0, 10, 0, 0);
        tell(x, OUTSIDE, 0, K, 0, Integer.MAX_VALUE, 0, 0);
        due("refused: ACTS", x.count(7), 0);
        for (int v = 0; v <= 9; v++) {
            tell(x, v == 0 ? O : K, 0, K, 0, v, 0, 0);
            due("line(0, 2)", x.line(0, 2), v);
        }
        for (int v = 5; v <= 9; v++) {
            tell(x, OUTSIDE, 0, S, 0, v, 0, 0);
            tell(x, OUTSIDE, 0, V, 0, v, 0, 1);
        }
    }

    private static void partsThatItHasNot() {
        Due.says("(those that it has not are 0)");
        for (int kind = K; kind <= D; kind++) {
            for (int part = 2; part <= 4; part++) {
                if (has(kind, part)) {
                    continue;
                }
                QuietLines x = Due.program("QOaObOc");
                int[] to = lineOf(kind);
                for (int wrong : new int[] {-9, -2, -1, 1, 2, 3, 4, 9, Integer.MIN_VALUE, Integer.MAX_VALUE}) {
                    to[part] = wrong;
                    tell(x, OUTSIDE, 1, to);
                }
                Due.line(x, 1, O, 1, NONE, NONE, NONE);
                due("refused: ACTS", x.count(7), 0);
                to[part] = 0;
                tell(x, O, 1, to);
                due("line(1, " + part + ")", x.line(1, part), NONE);
            }
        }
    }

    private static void targets() {
        Due.says("(t from its number and 1 to the number of LINES; a full stop: -1)");
        for (int kind = V; kind <= T; kind++) {
            for (int many = 1; many <= 9; many++) {
                for (int line = 0; line < many; line++) {
                    targetsOf(kind, many, line);
                }
            }
        }
    }

    private static void targetsOf(int kind, int many, int line) {
        QuietLines x = Due.program("Q" + "Oa".repeat(many));
        for (int far : Due.FAR) {
            tell(x, OUTSIDE, line, kind, 0, 0, 0, far);
        }
        int was = O;
        for (int t = -10; t <= 11; t++) {
            boolean right = t == -1 || t >= line + 1 && t <= many;
            tell(x, right ? was : OUTSIDE, line, kind, 0, 0, 0, t);
            if (right) {
                due("line(" + line + ", 4)", x.line(line, 4), t);
                was = kind;
            }
        }
    }

    private static void firstRefusalOfTell() {
        Due.says("REFUSALS, of several the first that a call names: UNKNOWN (there is no such LINE, VARIABLE, SLOT), OUTSIDE");
        QuietLines x = Due.program("QOaOb");
        tell(x, UNKNOWN, 2, 7, 5, 10, 5, -2);
        tell(x, UNKNOWN, -1, -1, -1, -1, -1, -2);
        tell(x, UNKNOWN, 2, O, 5, 0, 0, 0);
        tell(x, OUTSIDE, 1, 7, 5, 10, 5, -2);
        due("ACTS", x.count(7), 0);
        due("relabel(3, 4)", x.relabel(3, 4), UNKNOWN);
        due("relabel(-1, -1)", x.relabel(-1, -1), UNKNOWN);
        due("ACTS", x.count(7), 0);
    }

    private static void labelled() {
        Due.says("LABELLED: an input a, b, c gets another LABEL.");
        QuietLines told = Due.program("QOaObOc");
        for (int input = 0; input < 3; input++) {
            told.relabel(input, 3 - input);
            due("label(0, " + input + ")", told.label(0, input), 3 - input);
        }
        Due.says("LABELLED: its LABEL as it was.");
        for (int input = 0; input < 3; input++) {
            QuietLines x = new QuietLines();
            int was = input;
            for (int label : new int[] {0, 3, 1, 1, 2, 0, 0, 3}) {
                due("relabel(" + input + ", " + label + ")", x.relabel(input, label), was);
                was = label;
                due("count(5)", x.count(5) >> 2 * input & 3, label);
            }
            due("ACTS, also those by which it is as it was", x.count(7), 8);
            for (int other = 0; other < 3; other++) {
                if (other != input) {
                    due("LABEL of " + other, x.count(5) >> 2 * other & 3, other);
                }
            }
        }
    }

    private static void whichInput() {
        Due.says("UNKNOWN: input (0 to 2);");
        QuietLines x = Due.program("QOa");
        due("relabel(-1, 0)", x.relabel(-1, 0), UNKNOWN);
        due("relabel(3, 0), d is no input", x.relabel(3, 0), UNKNOWN);
        due("relabel(4, 0), e is no input", x.relabel(4, 0), UNKNOWN);
        for (int far : Due.FAR) {
            due("relabel(" + far + ", 0)", x.relabel(far, 0), UNKNOWN);
        }
        due("ACTS", x.count(7), 0);
        due("LABELS", x.count(5), 36);
        due("relabel(0, 1)", x.relabel(0, 1), 0);
        due("relabel(2, 1)", x.relabel(2, 1), 2);
        due("LABELS", x.count(5), 1 + 4 + 16);
    }

    private static void whichLabel() {
        Due.says("OUTSIDE: label (0 to 3).");
        QuietLines x = Due.program("QOa");
        due("relabel(0, -1)", x.relabel(0, -1), OUTSIDE);
        due("relabel(2, 4)", x.relabel(2, 4), OUTSIDE);
        for (int far : Due.FAR) {
            due("relabel(1, " + far + ")", x.relabel(1, far), OUTSIDE);
        }
        due("ACTS", x.count(7), 0);
        due("LABELS", x.count(5), 36);
        due("relabel(2, 0)", x.relabel(2, 0), 2);
        due("relabel(2, 3)", x.relabel(2, 3), 0);
    }

    private static void fourteenActs() {
        Due.says("ACTS (TOLD, LABELLED) are a row (14 at most;");
        QuietLines x = Due.program("QKa0");
        for (int i = 1; i <= 30; i++) {
            if (i % 2 == 0) {
                x.relabel(0, i % 4);
            } else {
                x.tell(0, K, 0, i % 10, 0, 0);
            }
            due("ACTS by number " + i, x.count(7), Math.min(i, 14));
        }
    }

    /** So many ACTS, each of which tells v as its number; then all that can be is undone. */
    private static void undone(int acts, int forgotten) {
        QuietLines x = Due.program("QKa0");
        for (int i = 1; i <= acts; i++) {
            x.tell(0, K, 0, i % 10, 0, 0);
        }
        for (int left = acts - forgotten - 1; left >= 0; left--) {
            due(acts + " ACTS: undo()", x.undo(), left);
            due(acts + " ACTS: v", x.line(0, 2), (forgotten + left) % 10);
        }
        due(acts + " ACTS: undo() of none", x.undo(), STATE);
        due(acts + " ACTS: v", x.line(0, 2), forgotten % 10);
    }

    private static void forgottenOnes() {
        Due.says("of more the first one is forgotten); the last one can be undone.");
        undone(1, 0);
        undone(13, 0);
        undone(14, 0);
        undone(15, 1);
        undone(16, 2);
        undone(28, 14);
        undone(29, 15);
        undone(100, 86);
        // the first one is forgotten whichever it is: here a LABEL, so that it stays when all others are undone
        QuietLines x = Due.program("QKa0");
        x.relabel(0, 3);
        for (int i = 1; i <= 14; i++) {
            x.tell(0, K, 0, i % 10, 0, 0);
        }
        for (int i = 0; i < 14; i++) {
            x.undo();
        }
        due("LABELS", x.count(5), 3 + 36);
        due("v", x.line(0, 2), 0);
        due("undo()", x.undo(), STATE);
        // refused ones forget nothing
        for (int i = 1; i <= 14; i++) {
            x.tell(0, K, 0, i % 10, 0, 0);
        }
        x.tell(0, K, 0, 10, 0, 0);
        x.tell(1, K, 0, 1, 0, 0);
        x.relabel(3, 0);
        x.relabel(0, 4);
        for (int left = 13; left >= 0; left--) {
            due("undo() behind refused ones", x.undo(), left);
        }
        due("v", x.line(0, 2), 0);
    }

    private static void roomByUndo() {
        Due.says("The last ACT is undone: how many are left.");
        QuietLines x = Due.program("QKa0");
        for (int i = 1; i <= 14; i++) {
            x.tell(0, K, 0, i % 10, 0, 0);
        }
        due("undo()", x.undo(), 13);
        x.tell(0, K, 0, 9, 0, 0);
        due("there was room for one: ACTS", x.count(7), 14);
        for (int left = 13; left >= 0; left--) {
            due("undo()", x.undo(), left);
        }
        due("none was forgotten: v", x.line(0, 2), 0);
        // an ACT behind an undone one is undone to what was ahead of it
        x.tell(0, K, 0, 5, 0, 0);
        x.tell(0, K, 0, 6, 0, 0);
        due("undo()", x.undo(), 1);
        x.relabel(1, 0);
        due("undo()", x.undo(), 1);
        due("v", x.line(0, 2), 5);
        due("LABELS", x.count(5), 36);
        due("undo()", x.undo(), 0);
        due("v", x.line(0, 2), 0);
    }

    private static void allIsAsItWas() {
        QuietLines x = Due.program("QKe9SabcVdeb.Ba9Tb9OcDdVcba9Be.");
        int[][] parts = new int[9][5];
        for (int line = 0; line < 9; line++) {
            for (int what = 0; what < 5; what++) {
                parts[line][what] = x.line(line, what);
            }
        }
        for (int line = 0; line < 9; line++) {
            for (int kind = K; kind <= D; kind++) {
                int t = kind >= V && kind <= T ? -1 : 0;
                x.tell(line, kind, 3, 0, 0, t);
                due("undo()", x.undo(), 0);
                Due.line(x, line, parts[line]);
            }
        }
        for (int input = 0; input < 3; input++) {
            for (int label = 0; label < 4; label++) {
                x.relabel(input, label);
                due("undo()", x.undo(), 0);
                due("LABELS", x.count(5), 36);
            }
        }
        x.hear(0, 0, 0, 0);
        x.seed(5);
        x.relabel(0, 1);
        x.hear(0, 0, 0, 0);
        x.write('x');
        due("undo()", x.undo(), 0);
        due("HEARD stays", x.count(8), 2);
        due("THE TEXT stays", x.count(0), 32);
        due("THE SEED stays", x.seed(0), 5);
    }

    private static void noneToUndo() {
        Due.says("STATE: there is none.");
        QuietLines x = new QuietLines();
        due("undo() of a new object", x.undo(), STATE);
        x.relabel(0, 0);
        due("undo() of one", x.undo(), 0);
        due("undo() of none", x.undo(), STATE);
        due("undo() of none", x.undo(), STATE);
        due("ACTS", x.count(7), 0);
        due("LABELS", x.count(5), 36);
        x.write('Q');
        x.relabel(0, 3);
        x.program();
        due("undo() behind program()", x.undo(), STATE);
        x.keep(1);
        x.relabel(0, 3);
        x.again(1);
        due("undo() behind again()", x.undo(), STATE);
        due("LABELS", x.count(5), 36);
    }
}
