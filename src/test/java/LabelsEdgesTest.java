/** WAYS, LABELS and CONTEXTS at their boundaries, sentence by sentence (promises 10 to 12). */
public final class LabelsEdgesTest {
    private static final int UNKNOWN = Due.UNKNOWN, OUTSIDE = Due.OUTSIDE;
    private static final int FULL_STOP = -1;

    private LabelsEdgesTest() {
    }

    public static void main(String[] args) {
        joinedAsBits();
        labelsOfInputs();
        whatALineLeaves();
        bothWaysToTheNext();
        whatComesByWays();
        oneBranchAnywhere();
        meetings();
        reached();
        contextBetween();
        contextAsLabelledThere();
        contextOfNone();
        restored();
        refusedLabels();
        refusedContexts();
        wrongOnes();
        wrongAsBits();
        Due.end();
    }

    private static void due(String call, long got, long want) {
        Due.due(call, got, want);
    }

    private static void labels(QuietLines x, int line, int... want) {
        for (int variable = 0; variable < 5; variable++) {
            due("label(" + line + ", " + variable + ")", x.label(line, variable), want[variable]);
        }
    }

    private static void contexts(String program, int... want) {
        QuietLines x = Due.program(program);
        for (int line = 0; line < want.length; line++) {
            due(program + ": context(" + line + ", 0)", x.context(line, 0), want[line]);
        }
        due(program + ": context behind the last", x.context(want.length, 0), UNKNOWN);
    }

    private static void meetings(String program, int... want) {
        QuietLines x = Due.program(program);
        for (int line = 0; line < want.length; line++) {
            due(program + ": context(" + line + ", 1)", x.context(line, 1), want[line]);
        }
        due(program + ": context behind the last", x.context(want.length, 1), UNKNOWN);
    }

    private static void wrong(String program, int want) {
        QuietLines x = Due.program(program);
        due(program + ": wrong()", x.wrong(), want);
        due(program + ": count(6)", x.count(6), want == 0 ? 1 : 0);
    }

    private static void joinedAsBits() {
        Due.says("3 (of both); two are JOINED as bits.");
        QuietLines sum = Due.program("QSdabOd");
        QuietLines division = Due.program("QVdab.Od");
        int[][] joined = {{0, 1, 2, 3}, {1, 1, 3, 3}, {2, 3, 2, 3}, {3, 3, 3, 3}};
        for (int one = 0; one < 4; one++) {
            for (int other = 0; other < 4; other++) {
                for (QuietLines x : new QuietLines[] {sum, division}) {
                    x.relabel(0, one);
                    x.relabel(1, other);
                    labels(x, 0, one, other, 2, 0, 0);
                    labels(x, 1, one, other, 2, joined[one][other], 0);
                    due("wrong()", x.wrong(), joined[one][other] == 0 ? 0 : 2);
                }
            }
        }
    }

    private static void labelsOfInputs() {
        Due.says("LABELS at a LINE: those at LINE 0 are as inputs have them;");
        QuietLines x = Due.program("QOaOb");
        for (int all = 0; all < 64; all++) {
            x.relabel(0, all & 3);
            x.relabel(1, all >> 2 & 3);
            x.relabel(2, all >> 4 & 3);
            labels(x, 0, all & 3, all >> 2 & 3, all >> 4 & 3, 0, 0);
            labels(x, 1, all & 3, all >> 2 & 3, all >> 4 & 3, 0, 0);
        }
    }

    private static void whatALineLeaves() {
        Due.says("K: x has its CONTEXT;");
        labels(Due.program("QKb0Oa"), 1, 0, 0, 2, 0, 0);
        labels(Due.program("QBb3Kc1OcOc"), 2, 0, 1, 1, 0, 0);
        labels(Due.program("QBb3Kc1OcOc"), 3, 0, 1, 3, 0, 0);
        Due.says("S: x has y, z, CONTEXT JOINED;");
        labels(Due.program("QSbaaOb"), 1, 0, 0, 2, 0, 0);
        labels(Due.program("QSaaaOa"), 1, 0, 1, 2, 0, 0);
        labels(Due.program("QSabbOa"), 1, 1, 1, 2, 0, 0);
        labels(Due.program("QSbbcOb"), 1, 0, 3, 2, 0, 0);
        labels(Due.program("QBc3SaabOaOa"), 2, 3, 1, 2, 0, 0);
        Due.says("V: by the next one x has y, z, CONTEXT JOINED, by t e has z and CONTEXT;");
        labels(Due.program("QVbaa.Ob"), 1, 0, 0, 2, 0, 0);
        labels(Due.program("QVebc3OeOeOe"), 1, 0, 1, 2, 0, 3);
        labels(Due.program("QVabc3OeOeOe"), 2, 3, 1, 2, 0, 0);
        labels(Due.program("QVabc2Ba3OeOe"), 2, 3, 1, 2, 0, 2);
        labels(Due.program("QBb4Vdaa3Bd.OeOe"), 3, 0, 1, 2, 1, 1);
        labels(Due.program("QBb4Vdcc3Bd.OeOe"), 3, 0, 1, 2, 3, 3);
        Due.says("T: by t e has x and CONTEXT;");
        labels(Due.program("QTc2OeOe"), 1, 0, 1, 2, 0, 0);
        labels(Due.program("QTc2OeOe"), 2, 0, 1, 2, 0, 2);
        labels(Due.program("QBb4Tc3Bd.OeOe"), 3, 0, 1, 2, 0, 3);
        labels(Due.program("QBb4Ta3Bd.OeOe"), 3, 0, 1, 2, 0, 1);
        Due.says("D: x has its CONTEXT.");
        labels(Due.program("QDbOb"), 1, 0, 0, 2, 0, 0);
        labels(Due.program("QDaOa"), 1, 0, 1, 2, 0, 0);
        labels(Due.program("QBb3DcOcOc"), 2, 0, 1, 1, 0, 0);
        labels(Due.program("QBb3DbOcOc"), 2, 0, 1, 2, 0, 0);
        Due.says("A LINE leaves them as they are, but for:");
        labels(Due.program("QBb2OcOc"), 1, 0, 1, 2, 0, 0);
        labels(Due.program("QBb2OcOc"), 2, 0, 1, 2, 0, 0);
        labels(Due.program("QOcOc"), 1, 0, 1, 2, 0, 0);
    }

    private static void bothWaysToTheNext() {
        Due.says("else of each VARIABLE JOINED of all that come to it by WAYS from REACHED LINES.");
        // t is the next one: by it x stays as it was, so it is JOINED with what it was
        labels(Due.program("QVbca1Ob"), 1, 0, 3, 2, 0, 0);
        labels(Due.program("QVbca.Ob"), 1, 0, 2, 2, 0, 0);
        labels(Due.program("QVeab1Oe"), 1, 0, 1, 2, 0, 1);
        labels(Due.program("QTb1Oe"), 1, 0, 1, 2, 0, 1);
        labels(Due.program("QTb.Oe"), 1, 0, 1, 2, 0, 0);
        // by t e has z, not what it was: c is lost there, and comes by the other WAY alone
        labels(Due.program("QSeccTb3OeOe"), 2, 0, 1, 2, 0, 2);
        labels(Due.program("QSeccTb2OeOe"), 2, 0, 1, 2, 0, 3);
        labels(Due.program("QSeccTb3Bd.OeOe"), 3, 0, 1, 2, 0, 3);
        labels(Due.program("QSeccTb3Ke1Oe"), 3, 0, 1, 2, 0, 1);
    }

    private static void whatComesByWays() {
        // three WAYS to LINE 4: from 0, from 1, from 3
        labels(Due.program("QBa4Ba4SdbbSeccOd"), 4, 0, 1, 2, 1, 2);
        // over LINE 1 goes a WAY by which b is as it was
        labels(Due.program("QBa2DbOb"), 2, 0, 1, 2, 0, 0);
        labels(Due.program("QBa1DbOb"), 2, 0, 0, 2, 0, 0);
        // a full stop brings nothing to any LINE
        labels(Due.program("QBa.DbOb"), 2, 0, 0, 2, 0, 0);
        labels(Due.program("QBa3DbOb"), 2, 0, 0, 2, 0, 0);
    }

    /** One LINE that looks at c among LINES Oa; all that follows of it can be told without going through WAYS. */
    private static void oneBranch(String kind, int many, int at, int t) {
        String told = kind + (t == FULL_STOP ? "." : "" + t);
        QuietLines x = Due.program("Q" + "Oa".repeat(at) + told + "Oa".repeat(many - at - 1));
        int meeting = t == FULL_STOP ? many : t;
        int wrong = 0;
        for (int line = 0; line < many; line++) {
            boolean between = line > at && line < meeting;
            boolean thrownTo = kind.charAt(0) != 'B' && t != FULL_STOP && line >= t;
            String where = told + " at " + at + " of " + many + ": LINE " + line;
            due(where + ", MEETING", x.context(line, 1), line == at ? meeting : line + 1);
            due(where + ", CONTEXT", x.context(line, 0), between ? 2 : 0);
            due(where + ", d", x.label(line, 3), kind.charAt(0) == 'V' && line > at ? 2 : 0);
            due(where + ", e", x.label(line, 4), thrownTo ? 2 : 0);
            wrong |= between ? 1 << line : 0;
        }
        due(told + " at " + at + " of " + many + ": wrong()", x.wrong(), wrong);
        due(told + " at " + at + " of " + many + ": count(2)", x.count(2), (1 << many) - 1);
    }

    private static void oneBranchAnywhere() {
        Due.says("WAYS of a LINE: the next one, and by V, B, T also t, each a LINE or THE END (a full stop leads to THE END).");
        for (String kind : new String[] {"Vdac", "Bc", "Tc"}) {
            for (int many = 1; many <= 9; many++) {
                for (int at = 0; at < many; at++) {
                    oneBranch(kind, many, at, FULL_STOP);
                    for (int t = at + 1; t <= many; t++) {
                        oneBranch(kind, many, at, t);
                    }
                }
            }
        }
    }

    private static void meetings() {
        Due.says("the least of what lies on each row of WAYS from it to THE END, itself set aside (a LINE, or THE END, told as "
                + "the number of LINES).");
        meetings("QOa", 1);
        meetings("QBa.", 1);
        meetings("QBa1", 1);
        meetings("QOaOaOaOaOaOaOaOaOa", 1, 2, 3, 4, 5, 6, 7, 8, 9);
        meetings("QBa.Ba.Ba.Ba.Ba.Ba.Ba.Ba.Ba.", 9, 9, 9, 9, 9, 9, 9, 9, 9);
        meetings("QBa9Ba9Ba9Ba9Ba9Ba9Ba9Ba9Ba9", 9, 9, 9, 9, 9, 9, 9, 9, 9);
        meetings("QBa1Ba2Ba3Ba4Ba5Ba6Ba7Ba8Ba9", 1, 2, 3, 4, 5, 6, 7, 8, 9);
        // rows that cross: 0 goes to 2, 1 to 3, 2 to 4
        meetings("QBa2Ba3Ba4OaOa", 4, 4, 4, 4, 5);
        // within: LINE 1 leads to THE END, so 0 meets there too
        meetings("QBa3Ba.OaOa", 4, 4, 3, 4);
        meetings("QBa3Ba3OaOa", 3, 3, 3, 4);
    }

    private static void reached() {
        Due.says("REACHED are LINE 0, if there is one, and those to which WAYS lead from such as are REACHED.");
        due("none: count(2)", Due.program("Q").count(2), 0);
        due("one: count(2)", Due.program("QOa").count(2), 1);
        due("nine: count(2)", Due.program("QOaOaOaOaOaOaOaOaOa").count(2), 511);
        due("behind a full stop, by the next one: count(2)", Due.program("QBa.Oa").count(2), 3);
        due("over which t goes: count(2)", Due.program("QKa1Ba4OaOaOa").count(2), 31);
        Due.says("NONE: it is not REACHED.");
        QuietLines x = Due.program("QKa1Ba.OaTa.Oa");
        for (int line = 0; line < 5; line++) {
            due("the next one is always a WAY: label(" + line + ", 0)", x.label(line, 0), 0);
        }
    }

    private static void contextBetween() {
        Due.says("from which rows of WAYS lead to it ahead of MEETING of i");
        contexts("QBb3OaOaOaOa", 0, 1, 1, 0, 0);
        contexts("QBb1OaOa", 0, 0, 0);
        contexts("QBb2OaOa", 0, 1, 0);
        contexts("QBb.OaOa", 0, 1, 1);
        contexts("QBb3OaOa", 0, 1, 1);
        contexts("QOaOaBb4OaOa", 0, 0, 0, 1, 0);
        // one within the other, one behind the other, rows that cross
        contexts("QBb4Bc3OaOaOa", 0, 1, 3, 1, 0);
        contexts("QBb2OaBc4OaOa", 0, 1, 0, 2, 0);
        contexts("QBb2Bc3OaOaOa", 0, 1, 3, 0, 0);
        // MEETING of 0 is THE END as LINE 2 leads there, so it is raised up to the last one
        contexts("QBb3OaBa.OaOa", 0, 1, 1, 1, 1);
        contexts("QBb9OaOaOaOaOaOaOaOa", 0, 1, 1, 1, 1, 1, 1, 1, 1);
        contexts("QBb8OaOaOaOaOaOaOaOa", 0, 1, 1, 1, 1, 1, 1, 1, 0);
    }

    private static void contextAsLabelledThere() {
        Due.says("what i looks at: of x by B and T, of z by V, as these are LABELLED there; of none 0.");
        contexts("QBa.Oa", 0, 0);
        contexts("QBb.Oa", 0, 1);
        contexts("QTc.Oa", 0, 2);
        contexts("QVabc.Oa", 0, 2);
        contexts("QVacb.Oa", 0, 1);
        contexts("QVbca.Oa", 0, 0);
        contexts("QDbBb.Oa", 0, 0, 0);
        contexts("QSbbcBb.Oa", 0, 0, 3);
        contexts("QBb.DbBb.Oa", 0, 1, 1, 1);
        // it is looked at before x becomes another one
        contexts("QVcac.Oa", 0, 2);
        contexts("QBb.Kb0Oa", 0, 1, 1);
        QuietLines x = Due.program("QBa.Oa");
        for (int label = 0; label < 4; label++) {
            x.relabel(0, label);
            due("LABEL " + label + ": context(0, 0)", x.context(0, 0), 0);
            due("LABEL " + label + ": context(1, 0)", x.context(1, 0), label);
        }
    }

    private static void contextOfNone() {
        Due.says("of none 0.");
        contexts("QOb", 0);
        contexts("QKb1SbbcDcOb", 0, 0, 0, 0);
        contexts("QBb1", 0);
        contexts("QTb.", 0);
    }

    private static void restored() {
        Due.says("a context that is raised between a branch and the line to which all its ways lead, and restored there;");
        contexts("QBc3OaBb3Oa", 0, 2, 2, 0);
        contexts("QBb5Bc4OaOaOaOa", 0, 1, 3, 3, 1, 0);
        contexts("QTb2OaVaac4OaOa", 0, 1, 0, 2, 0);
    }

    private static void refusedLabels() {
        Due.says("UNKNOWN: line, variable.");
        for (int many = 0; many <= 9; many++) {
            QuietLines x = Due.program("QOaOaOaOaOaOaOaOaOa");
            x.wipe();
            Due.write(x, "Q" + "Oa".repeat(many));
            x.program();
            due(many + " LINES: label(-1, 1)", x.label(-1, 1), UNKNOWN);
            due(many + " LINES: label(many - 1, 1)", x.label(many - 1, 1), many == 0 ? UNKNOWN : 1);
            due(many + " LINES: label(many, 1)", x.label(many, 1), UNKNOWN);
        }
        QuietLines x = Due.program("QOa");
        int[] labels = {UNKNOWN, 0, 1, 2, 0, 0, UNKNOWN, UNKNOWN};
        for (int variable = -1; variable <= 6; variable++) {
            due("label(0, " + variable + ")", x.label(0, variable), labels[variable + 1]);
        }
        for (int far : Due.FAR) {
            due("label(" + far + ", 0)", x.label(far, 0), UNKNOWN);
            due("label(0, " + far + ")", x.label(0, far), UNKNOWN);
            due("label(" + far + ", " + far + ")", x.label(far, far), UNKNOWN);
        }
    }

    private static void refusedContexts() {
        Due.says("CONTEXT (what = 0; not REACHED: NONE), MEETING (1). UNKNOWN; OUTSIDE.");
        for (int many = 0; many <= 9; many++) {
            QuietLines x = Due.program("QOaOaOaOaOaOaOaOaOa");
            x.wipe();
            Due.write(x, "Q" + "Oa".repeat(many));
            x.program();
            due(many + " LINES: context(-1, 1)", x.context(-1, 1), UNKNOWN);
            due(many + " LINES: context(many - 1, 1)", x.context(many - 1, 1), many == 0 ? UNKNOWN : many);
            due(many + " LINES: context(many, 1)", x.context(many, 1), UNKNOWN);
            due(many + " LINES: context(many, 2), UNKNOWN is named first", x.context(many, 2), UNKNOWN);
            due(many + " LINES: context(-1, -1), UNKNOWN is named first", x.context(-1, -1), UNKNOWN);
        }
        QuietLines x = Due.program("QOa");
        due("context(0, -1)", x.context(0, -1), OUTSIDE);
        due("context(0, 0)", x.context(0, 0), 0);
        due("context(0, 1)", x.context(0, 1), 1);
        due("context(0, 2)", x.context(0, 2), OUTSIDE);
        for (int far : Due.FAR) {
            due("context(" + far + ", 0)", x.context(far, 0), UNKNOWN);
            due("context(0, " + far + ")", x.context(0, far), OUTSIDE);
            due("context(" + far + ", " + far + ")", x.context(far, far), UNKNOWN);
        }
    }

    private static void wrongOnes() {
        Due.says("A WRONG one is a REACHED LINE O whose x has there, JOINED with CONTEXT, a LABEL that is not 0.");
        QuietLines x = Due.program("QOa");
        for (int label = 0; label < 4; label++) {
            x.relabel(0, label);
            due("LABEL " + label + ": wrong()", x.wrong(), label == 0 ? 0 : 1);
            due("LABEL " + label + ": count(6)", x.count(6), label == 0 ? 1 : 0);
        }
        wrong("QBb2OaOa", 2);
        wrong("QBb1OaOa", 0);
        wrong("QBa2ObOb", 6);
        wrong("QBb.DbOb", 4);
        wrong("QDbBb.Ob", 0);
        wrong("QKb1ObOc", 4);
        wrong("QTb2OaOe", 2 + 4);
        wrong("QTb2OaOd", 2);
        wrong("QTb.OaOe", 2 + 4);
        wrong("QTa2OaOe", 0);
        wrong("QDbDcOaObOcOdOe", 0);
        // LINES of other KINDS are never WRONG
        wrong("QKb1SbccVbcc.Bb.Tb.Db", 0);
        Due.says("THE PROGRAM is QUIET, if there is none.");
        due("no LINE: count(6)", new QuietLines().count(6), 1);
        due("no O: count(6)", Due.program("QBb.").count(6), 1);
        due("one of nine: count(6)", Due.program("QOaOaOaOaOaOaOaOaOb").count(6), 0);
    }

    private static void wrongAsBits() {
        Due.says("LINES that are WRONG, as bits.");
        due("wrong() of a new object", new QuietLines().wrong(), 0);
        for (int bits = 0; bits < 512; bits++) {
            StringBuilder program = new StringBuilder("Q");
            for (int line = 0; line < 9; line++) {
                program.append((bits >> line & 1) == 1 ? "Oc" : "Oa");
            }
            wrong(program.toString(), bits);
        }
    }
}
