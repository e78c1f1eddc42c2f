/** RUNS, LEAKS, WORLDS and what is JUDGED at their boundaries, sentence by sentence (promises 13 to 18). */
public final class RunsEdgesTest {
    private static final int OUTSIDE = Due.OUTSIDE, NONE = Due.NONE;

    private RunsEdgesTest() {
    }

    public static void main(String[] args) {
        becomes();
        spokenAndFree();
        sums();
        divisions();
        branches();
        throwing();
        theEnd();
        refusedValues();
        numbersSpoken();
        ends();
        refusedEnds();
        leakByA();
        leakByPairs();
        leakByNumber();
        noLeak();
        worlds();
        alike();
        doingsOneByOne();
        doingsInARow();
        refusedRows();
        nothingIsChanged();
        Due.end();
    }

    private static void due(String call, long got, long want) {
        Due.due(call, got, want);
    }

    private static void becomes() {
        Due.says("Kxv (KIND 0) x becomes v");
        for (int v = 0; v <= 9; v++) {
            for (char x = 'a'; x <= 'e'; x++) {
                Due.spoken("QK" + x + v + "O" + x, 5, 5, 5, v);
            }
        }
    }

    private static void spokenAndFree() {
        Due.says("Ox (5) x is SPOKEN Dx (6) x is given FREE");
        for (int v = 0; v <= 9; v++) {
            Due.spoken("QOaDaOaObDbOb", v, 9 - v, 0, v, v, 9 - v, 9 - v);
            Due.spoken("QDaDbDcDdDe", v, v, v);
        }
    }

    private static void sums() {
        Due.says("x becomes y and z together, less 10, if that is 10 or more");
        QuietLines x = Due.program("QSdabOd");
        for (int y = 0; y <= 9; y++) {
            for (int z = 0; z <= 9; z++) {
                int sum = y + z;
                due("run(" + y + ", " + z + ", 0, 0)", x.run(y, z, 0, 0), sum >= 10 ? sum - 10 : sum);
            }
        }
        Due.spoken("QSaaaOa", 4, 0, 0, 8);
        Due.spoken("QSaaaOa", 5, 0, 0, 0);
        Due.spoken("QSaaaOa", 9, 0, 0, 8);
        Due.spoken("QSaabSaabOa", 9, 9, 0, 7);
    }

    private static void divisions() {
        Due.says("x becomes y divided by z, cut; if z is 0, x stays, it is THROWN with 1 to t");
        QuietLines x = Due.program("QKd7Vdab3OdOdOe");
        for (int y = 0; y <= 9; y++) {
            due("by 0, x stays: run(" + y + ", 0, 0, 0)", x.run(y, 0, 0, 0), 7);
            due("by 0, THROWN with 1: run(" + y + ", 0, 0, 1)", x.run(y, 0, 0, 1), 1);
            due("by 0, LINE 2 is left out: ends(" + y + ", 0, 0, 0)", x.ends(y, 0, 0, 0), 2);
            due("by 0, to a LINE: ends(" + y + ", 0, 0, 1)", x.ends(y, 0, 0, 1), 0);
            for (int z = 1; z <= 9; z++) {
                due("run(" + y + ", " + z + ", 0, 0)", x.run(y, z, 0, 0), y / z);
                due("run(" + y + ", " + z + ", 0, 1)", x.run(y, z, 0, 1), y / z);
                due("run(" + y + ", " + z + ", 0, 2)", x.run(y, z, 0, 2), 0);
                due("ends(" + y + ", " + z + ", 0, 0)", x.ends(y, z, 0, 0), 3);
            }
        }
        // x is z, or e, too: it stays, and e becomes 1
        Due.spoken("QVbab1ObOe", 9, 0, 0, 0, 1);
        Due.spoken("QVeab1Oe", 9, 0, 0, 1);
        Due.spoken("QVeab1Oe", 9, 2, 0, 4);
        Due.spoken("QVaaa1OaOe", 0, 0, 0, 0, 1);
        Due.spoken("QVaaa1OaOe", 1, 0, 0, 1, 0);
    }

    private static void branches() {
        Due.says("if x is not 0, one goes on at t, else at the next LINE");
        Due.spoken("QBa2ObOc", 0, 4, 5, 4, 5);
        for (int a = 1; a <= 9; a++) {
            Due.spoken("QBa2ObOc", a, 4, 5, 5);
            Due.spoken("QBa3ObOc", a, 4, 5);
            Due.spoken("QBa.ObOc", a, 4, 5);
            Due.spoken("QBa1ObOc", a, 4, 5, 4, 5);
        }
        Due.spoken("QBa1ObOc", 0, 4, 5, 4, 5);
        Due.spoken("QBa.ObOc", 0, 4, 5, 4, 5);
    }

    private static void throwing() {
        Due.says("if x is not 0, it is THROWN with x to t");
        Due.spoken("QTa2ObOe", 0, 4, 5, 4, 0);
        for (int a = 1; a <= 9; a++) {
            Due.spoken("QTa2ObOe", a, 4, 5, a);
            Due.spoken("QTa1ObOe", a, 4, 5, 4, a);
            Due.spoken("QTa.ObOe", a, 4, 5);
            Due.spoken("QTa3ObOe", a, 4, 5);
        }
        // e stays as it is if x is 0, and is itself THROWN if it is x
        Due.spoken("QKe8Ta2Oe", 0, 0, 0, 8);
        Due.spoken("QKe8Te3ObOe", 0, 0, 0, 8);
        Due.spoken("QKe8Ta2Oe", 3, 0, 0, 3);
    }

    private static void ends(String program, int a, int many, int failure, int e) {
        QuietLines x = Due.program(program);
        due(program + " by " + a + ": ends, 0", x.ends(a, 0, 0, 0), many);
        due(program + " by " + a + ": ends, 1", x.ends(a, 0, 0, 1), failure);
        due(program + " by " + a + ": ends, 2", x.ends(a, 0, 0, 2), e);
    }

    private static void theEnd() {
        Due.says("THROWN with a value to t: e becomes that, one goes on at LINE t; by a full stop: THE END, in FAILURE.");
        ends("QTa.Oa", 0, 1, 0, 0);
        ends("QTa.Oa", 1, 0, 1, 1);
        ends("QTa.Oa", 9, 0, 1, 9);
        ends("QVaab.Oa", 9, 0, 1, 1);
        ends("QVaaa.Oa", 9, 1, 0, 0);
        Due.says("(B with a full stop: THE END, no FAILURE.)");
        ends("QBa.Oa", 9, 0, 0, 0);
        ends("QBa.Oa", 0, 1, 0, 0);
        ends("QBa.Ta.", 9, 0, 0, 0);
        Due.says("Else one goes on at the next LINE. Behind the last LINE, and at a t that is the number of LINES, is THE END.");
        ends("QTa1", 7, 0, 0, 7);
        ends("QTa2Oa", 7, 0, 0, 7);
        ends("QTa1Oa", 7, 1, 0, 7);
        ends("QBa1", 7, 0, 0, 0);
        ends("QVaab1", 7, 0, 0, 1);
        ends("QOaOaOaOaOaOaOaOaTa9", 7, 8, 0, 7);
        ends("QOaOaOaOaOaOaOaOaTa.", 7, 8, 1, 7);
        ends("QTa9OaOaOaOaOaOaOaOa", 7, 0, 0, 7);
        ends("QTa8OaOaOaOaOaOaOaOa", 7, 1, 0, 7);
        ends("Q", 7, 0, 0, 0);
        // a first THROW that is caught, and one behind it that is not
        ends("QTa1Te.", 6, 0, 1, 6);
        ends("QTa1Tb.", 6, 0, 0, 6);
    }

    private static void refusedValues() {
        Due.says("A RUN by values of a, b, c (0 to 9 each; d and e 0): what is SPOKEN, one after the other.");
        QuietLines x = Due.program("QOaObOcOdOe");
        for (int place = 0; place < 3; place++) {
            int[] v = {5, 6, 7};
            for (int value : new int[] {Integer.MIN_VALUE, -9, -1, 10, 11, 100, Integer.MAX_VALUE}) {
                v[place] = value;
                due("run by " + value, x.run(v[0], v[1], v[2], 0), OUTSIDE);
                due("run by " + value + ", where there is none such", x.run(v[0], v[1], v[2], -1), OUTSIDE);
                due("ends by " + value, x.ends(v[0], v[1], v[2], 0), OUTSIDE);
                due("alike by " + value, x.alike(v[0], v[1], v[2]), OUTSIDE);
            }
            for (int value = 0; value <= 9; value++) {
                v[place] = value;
                due("run by " + value, x.run(v[0], v[1], v[2], place), value);
                due("ends by " + value, x.ends(v[0], v[1], v[2], 0), 5);
                due("alike by " + value, x.alike(v[0], v[1], v[2]), 1);
            }
        }
        due("d is 0", x.run(9, 9, 9, 3), 0);
        due("e is 0", x.run(9, 9, 9, 4), 0);
    }

    private static void numbersSpoken() {
        Due.says("number i that is SPOKEN (from 0); NONE: there is none such. OUTSIDE: a, b, c.");
        for (int many = 0; many <= 9; many++) {
            QuietLines x = Due.program("Q" + "Oa".repeat(many));
            due(many + " SPOKEN: run, -1", x.run(3, 0, 0, -1), NONE);
            due(many + " SPOKEN: run, the first", x.run(3, 0, 0, 0), many == 0 ? NONE : 3);
            due(many + " SPOKEN: run, the last", x.run(3, 0, 0, many - 1), many == 0 ? NONE : 3);
            due(many + " SPOKEN: run, behind it", x.run(3, 0, 0, many), NONE);
            for (int far : Due.FAR) {
                due(many + " SPOKEN: run, " + far, x.run(3, 0, 0, far), NONE);
            }
        }
        Due.spoken("QObOcOaOcObOdOaObOc", 1, 2, 3, 2, 3, 1, 3, 2, 0, 1, 2, 3);
        // what a longer RUN spoke is not there in a shorter one
        QuietLines x = Due.program("QBb.OaOaOa");
        due("run, 2", x.run(4, 0, 0, 2), 4);
        due("run, 2, of a shorter one", x.run(4, 1, 0, 2), NONE);
        due("run, 0, of a shorter one", x.run(4, 1, 0, 0), NONE);
    }

    private static void ends() {
        Due.says("how many are SPOKEN (what = 0), 1 if it is a FAILURE (1), the value of e at THE END (2).");
        ends("Q", 0, 0, 0, 0);
        ends("QOaOaOaOaOaOaOaOaOa", 0, 9, 0, 0);
        ends("QKe9", 0, 0, 0, 9);
        ends("QKe9Ta.", 0, 0, 0, 9);
        ends("QKe9Ta.", 1, 0, 1, 1);
        // FAILURE of one RUN is not that of the next
        QuietLines x = Due.program("QTb.Oa");
        due("ends by b = 1", x.ends(0, 1, 0, 1), 1);
        due("ends by b = 0", x.ends(0, 0, 0, 1), 0);
        due("e by b = 0", x.ends(0, 0, 0, 2), 0);
    }

    private static void refusedEnds() {
        Due.says("OUTSIDE: a, b, c, what.");
        QuietLines x = Due.program("QOa");
        due("ends, -1", x.ends(0, 0, 0, -1), OUTSIDE);
        due("ends, 0", x.ends(0, 0, 0, 0), 1);
        due("ends, 2", x.ends(0, 0, 0, 2), 0);
        due("ends, 3", x.ends(0, 0, 0, 3), OUTSIDE);
        for (int far : Due.FAR) {
            due("ends, " + far, x.ends(0, 0, 0, far), OUTSIDE);
        }
    }

    private static void leak(String program, int... want) {
        QuietLines x = Due.program(program);
        for (int what = 0; what < 4; what++) {
            due(program + ": leak(" + what + ")", x.leak(what), want.length == 0 ? NONE : want[what]);
        }
    }

    private static void leakByA() {
        Due.says("The least: the least a, then the least b, c (10 times b and c), then the least other pair (it is greater, then).");
        // b is SPOKEN by one value of a alone
        for (int a = 0; a <= 9; a++) {
            leak("QKd" + (10 - a) % 10 + "SdadBd.Ob", a, 0, 10, 0);
        }
        // b is SPOKEN by all values of a but one
        for (int a = 0; a <= 9; a++) {
            leak("QKd" + (10 - a) % 10 + "SdadTd4Kb0Ob", a == 0 ? 1 : 0, 0, 10, 0);
        }
        leak("QObOc", 0, 0, 1, 1);
        leak("QOcOb", 0, 0, 1, 0);
    }

    /** A PROGRAM that speaks a by this pair of b, c alone. */
    private static String onlyBy(int pair) {
        return "QKd" + (10 - pair / 10) % 10 + "SbbdBb.Kd" + (10 - pair % 10) % 10 + "SccdBc.Oa";
    }

    private static void leakByPairs() {
        for (int pair = 0; pair < 100; pair++) {
            leak(onlyBy(pair), 0, 0, pair == 0 ? 1 : pair, 0);
        }
    }

    private static void leakByNumber() {
        Due.says("the first number that is SPOKEN otherwise (3: from 0; also where one has none)");
        for (int ahead = 0; ahead <= 8; ahead++) {
            leak("Q" + "Oa".repeat(ahead) + "Ob", 0, 0, 10, ahead);
        }
        for (int ahead = 0; ahead <= 7; ahead++) {
            // the other one has none
            leak("Q" + "Oa".repeat(ahead) + "Bb.Oa", 0, 0, 10, ahead);
        }
        // the one has none: it goes to THE END by e, which is 1 if b is 0
        for (int ahead = 0; ahead <= 5; ahead++) {
            leak("Q" + "Oa".repeat(ahead) + "Bb" + (ahead + 3) + "Ke1Be.Oa", 0, 0, 10, ahead);
        }
        Due.says("two pairs of values of b, c by which RUNS SPEAK otherwise (of like length, too).");
        leak("QOcOa", 0, 0, 1, 0);
        leak("QBb2OaOa", 0, 0, 10, 1);
    }

    private static void noLeak() {
        Due.says("NONE: there is none. OUTSIDE.");
        leak("Q");
        leak("QOaOaOaOaOaOaOaOaOa");
        leak("QKb1Kc1ObOc");
        // FAILURE and e at THE END are not SPOKEN
        leak("QOaTb.");
        leak("QOaTb2");
        // by 10 there would be one: 10 by 5 is 2, and by 2 alone e is 0 then; but a, b, c are 9 at most
        leak("QKd5Vead.Kd8SeedBe.Ob");
        leak("QKd5Vebd.Kd8SeedBe.Oa");
        leak("QKd5Vecd.Kd8SeedBe.Oa");
        // by 9 there is one: 9 by 5 is 1, as it is by 5
        leak("QKd5Vead.Kd9SeedBe.Ob", 5, 0, 10, 0);
        leak("QKd5Vebd.Kd9SeedBe.Oa", 0, 0, 50, 0);
        leak("QKd5Vecd.Kd9SeedBe.Oa", 0, 0, 5, 0);
        // a LABEL makes no LEAK, and none takes it away
        QuietLines x = Due.program("QOa");
        x.relabel(0, 3);
        due("an a that is secret: leak(0)", x.leak(0), NONE);
        x = Due.program("QOb");
        x.relabel(1, 0);
        x.relabel(2, 0);
        due("a b that is open: leak(0)", x.leak(0), 0);
        due("a b that is open: leak(2)", x.leak(2), 10);
        due("leak(-1)", x.leak(-1), OUTSIDE);
        due("leak(0)", x.leak(0), 0);
        due("leak(3)", x.leak(3), 0);
        due("leak(4)", x.leak(4), OUTSIDE);
        for (int far : Due.FAR) {
            due("leak(" + far + ")", x.leak(far), OUTSIDE);
        }
        due("leak(4), where there is none", Due.program("Q").leak(4), OUTSIDE);
        due("leak(-1), where there is none", Due.program("Q").leak(-1), OUTSIDE);
    }

    private static void worlds(String program, int a, int want) {
        due(program + ": worlds(" + a + ")", Due.program(program).worlds(a), want);
    }

    private static void worlds() {
        Due.says("WORLDS of a: how many unlike rows are SPOKEN by all 100 pairs of b, c.");
        worlds("Q", 0, 1);
        worlds("QOaOaOaOaOaOaOaOaOa", 9, 1);
        worlds("QObOc", 0, 100);
        worlds("QObObObObObObObObOc", 9, 100);
        worlds("QOcOcOcOcOcOcOcOcOb", 9, 100);
        worlds("QOb", 0, 10);
        worlds("QBb.Oc", 0, 11);
        for (int pair = 0; pair < 100; pair++) {
            worlds(onlyBy(pair), 0, 2);
        }
        // rows of figures 0 that differ in length alone; rows that would be one number, told together
        worlds("QBb2OaOa", 0, 2);
        worlds("QBb3OaOaBc5OaOa", 0, 4);
        worlds("QBb2OcOc", 0, 20);
        int[] quotients = {2, 3, 4, 4, 5, 5, 6, 6, 6, 6};
        QuietLines x = Due.program("QVdab.Od");
        for (int a = 0; a <= 9; a++) {
            due("worlds(" + a + ")", x.worlds(a), quotients[a]);
        }
        nineThatSpeak();
        Due.says("`int worlds(int a)`: WORLDS. OUTSIDE.");
        due("worlds(-1)", x.worlds(-1), OUTSIDE);
        due("worlds(10)", x.worlds(10), OUTSIDE);
        for (int far : Due.FAR) {
            due("worlds(" + far + ")", x.worlds(far), OUTSIDE);
        }
    }

    /** Nine LINES that speak b or c, in each way: unlike rows of nine figures, 10 of them or 100. */
    private static void nineThatSpeak() {
        for (int bits = 0; bits < 512; bits++) {
            StringBuilder program = new StringBuilder("Q");
            for (int line = 0; line < 9; line++) {
                program.append((bits >> line & 1) == 1 ? "Ob" : "Oc");
            }
            boolean both = bits != 0 && bits != 511;
            QuietLines x = Due.program(program.toString());
            due(program + ": worlds(0)", x.worlds(0), both ? 100 : 10);
            due(program + ": alike(0, 9, 9)", x.alike(0, 9, 9), both ? 1 : 10);
            due(program + ": alike(0, 0, 9)", x.alike(0, 0, 9), both ? 1 : 10);
        }
    }

    private static void alike() {
        Due.says("`int alike(int a, int b, int c)`: ALIKE. OUTSIDE.");
        int[][] values = {{-1, 0, 0}, {10, 0, 0}, {0, -1, 0}, {0, 10, 0}, {0, 0, -1}, {0, 0, 10}, {10, 10, 10}, {-1, -1, -1}};
        for (int[] v : values) {
            due("alike by " + v[0] + ", " + v[1] + ", " + v[2], new QuietLines().alike(v[0], v[1], v[2]), OUTSIDE);
        }
        due("alike(9, 9, 9)", new QuietLines().alike(9, 9, 9), 100);
        Due.says("ALIKE to a, b, c: by how many pairs of b, c the same is SPOKEN.");
        for (int pair = 0; pair < 100; pair++) {
            QuietLines x = Due.program(onlyBy(pair));
            int other = pair == 99 ? 0 : pair + 1;
            due(pair + ": alike to itself", x.alike(9, pair / 10, pair % 10), 1);
            due(pair + ": alike to another one", x.alike(9, other / 10, other % 10), 99);
        }
        due("alike, all", new QuietLines().alike(0, 0, 0), 100);
        due("alike, all", Due.program("QOa").alike(9, 9, 9), 100);
        due("alike, b", Due.program("QOb").alike(9, 9, 9), 10);
        due("alike, one of 100", Due.program("QObObObObObObObObOc").alike(9, 9, 9), 1);
        // rows of figures 0: by b = 0 two, else one
        due("alike, two of 0", Due.program("QBb2OaOa").alike(0, 0, 9), 10);
        due("alike, one of 0", Due.program("QBb2OaOa").alike(0, 1, 9), 90);
        // the same is SPOKEN by the same a alone
        due("alike, by a = 0", Due.program("QBa.Ob").alike(0, 3, 0), 10);
        due("alike, by a = 1", Due.program("QBa.Ob").alike(1, 3, 0), 100);
    }

    private static final int[][] LABELS = {{0, 1, 2, 0, 0}, {0, 1, 2, 3, 0}, {0, 0, 2, 3, 0}, {0, 0, 2, 0, 0}};
    private static final int[] CONTEXTS = {0, 1, 3, 3, 1, 0}, MEETINGS = {5, 4, 3, 4, 5, 6};
    private static final int[] QUOTIENTS = {2, 3, 4, 4, 5, 5, 6, 6, 6, 6};

    /** Whether a doing is so, told in each case for the PROGRAM that programFor makes. */
    private static boolean isSo(int kind, int first, int second, int last) {
        boolean none = second == 0;
        return switch (kind) {
            case 1 -> none && first <= 2 && last <= 3;
            case 2 -> first <= 3 && second <= 4 && last == LABELS[first][second];
            case 3 -> none && first <= 5 && last == CONTEXTS[first];
            case 4 -> none && first <= 5 && last == MEETINGS[first];
            case 5 -> none && last == 0 && first >= 2 && first <= 4;
            case 6 -> none && last == 0 && first == 0;
            case 7 -> none && last <= QUOTIENTS[first];
            default -> false;
        };
    }

    private static QuietLines programFor(int kind) {
        return switch (kind) {
            case 2 -> Due.program("QSdbcKb5DdOa");
            case 6 -> Due.program("QDbObOa");
            case 7 -> Due.program("QVdab.Od");
            default -> Due.program("QBb5Bc4OaOaOaOa");
        };
    }

    private static void doingsOneByOne() {
        Due.says("the place of the first that can not be (or is not so); NONE: none.");
        for (int doing = 0; doing < 10000; doing += 100) {
            QuietLines x = programFor(doing / 1000);
            for (int last = 0; last < 100; last++) {
                boolean so = isSo(doing / 1000, doing / 100 % 10, last / 10, last % 10);
                due("judge(1, " + (doing + last) + ")", x.judge(1, doing + last), so ? NONE : 0);
            }
        }
        Due.says("6, 0, 0, 0: THE PROGRAM is QUIET;");
        due("not QUIET: judge(1, 6000)", Due.program("QOaOb").judge(1, 6000), 0);
        due("no LINE: judge(1, 6000)", new QuietLines().judge(1, 6000), NONE);
        Due.says("2, a LINE, a VARIABLE, a LABEL: it has that there, the LINE is REACHED;");
        due("no LINE: judge(1, 2000)", new QuietLines().judge(1, 2000), 0);
        due("LINE 8 of 9: judge(1, 2822)", Due.program("QOaOaOaOaOaOaOaOaOa").judge(1, 2822), NONE);
        due("LINE 9 of 9: judge(1, 2922)", Due.program("QOaOaOaOaOaOaOaOaOa").judge(1, 2922), 0);
        Due.says("3, a LINE, 0, a LABEL: that is its CONTEXT, it is REACHED;");
        due("no LINE: judge(1, 3000)", new QuietLines().judge(1, 3000), 0);
        due("LINE 8 of 9: judge(1, 3801)", Due.program("QBb.OaOaOaOaOaOaOaOa").judge(1, 3801), NONE);
        due("LINE 9 of 9: judge(1, 3901)", Due.program("QBb.OaOaOaOaOaOaOaOa").judge(1, 3901), 0);
        Due.says("4, a LINE, 0, a figure: that is its MEETING;");
        due("no LINE: judge(1, 4000)", new QuietLines().judge(1, 4000), 0);
        due("LINE 8 of 9: judge(1, 4809)", Due.program("QOaOaOaOaOaOaOaOaOa").judge(1, 4809), NONE);
        due("LINE 9 of 9: judge(1, 4909)", Due.program("QOaOaOaOaOaOaOaOaOa").judge(1, 4909), 0);
        Due.says("5, a LINE, 0, 0: it is WRONG;");
        due("no LINE: judge(1, 5000)", new QuietLines().judge(1, 5000), 0);
        due("LINE 8 of 9: judge(1, 5800)", Due.program("QOaOaOaOaOaOaOaOaOb").judge(1, 5800), NONE);
        due("LINE 9 of 9: judge(1, 5900)", Due.program("QObObObObObObObObOb").judge(1, 5900), 0);
        Due.says("7, a, 0, v: WORLDS of a are v or more)");
        due("1: judge(1, 7000)", new QuietLines().judge(1, 7000), NONE);
        due("1: judge(1, 7901)", new QuietLines().judge(1, 7901), NONE);
        due("1: judge(1, 7902)", new QuietLines().judge(1, 7902), 0);
        due("100: judge(1, 7909)", Due.program("QObOc").judge(1, 7909), NONE);
    }

    private static void judged(QuietLines x, int want, int... doings) {
        long row = 0;
        for (int one : doings) {
            row = row * 10000 + one;
        }
        due("judge(" + doings.length + ", " + row + ")", x.judge(doings.length, row), want);
    }

    private static void doingsInARow() {
        Due.says("JUDGED: n doings (1 to 4), told as four figures each");
        QuietLines x = Due.program("QObBc.Oa");
        judged(x, NONE, 5000, 5200, 3202, 4103);
        for (int wrong = 0; wrong < 4; wrong++) {
            int[] doings = {5000, 5200, 3202, 4103};
            doings[wrong] = 9999;
            judged(x, wrong, doings);
            for (int behind = wrong + 1; behind < 4; behind++) {
                doings[behind] = 8000;
            }
            judged(x, wrong, doings);
        }
        // fewer figures: those ahead are 0, and no doing is 0
        due("judge(2, 5000)", x.judge(2, 5000), 0);
        due("judge(4, 5000)", x.judge(4, 5000), 0);
        due("judge(4, 500050005000)", x.judge(4, 500050005000L), 0);
        Due.says("LABELLED (also as it is);");
        judged(x, NONE, 1000, 1101, 1202, 5000);
        judged(x, NONE, 1100, 1200, 6000, 2000);
        judged(x, 1, 1100, 6000, 1200);
        judged(x, 1, 1100, 5000);
        judged(x, NONE, 5000, 1100);
        judged(x, 2, 1100, 1200, 5200, 1203);
        judged(x, NONE, 1203, 3203, 1201, 3201);
        judged(x, NONE, 1003, 5200, 2003, 2103);
        // how many WORLDS there are is not changed by LABELS
        judged(x, NONE, 1100, 1200, 7009, 6000);
        judged(x, 1, 1100, 1303, 6000);
    }

    private static void refusedRows() {
        Due.says("OUTSIDE: n, row (0 or more, 4 n figures at most).");
        QuietLines x = Due.program("QOa");
        long rows = 1;
        for (int n = 1; n <= 4; n++) {
            rows *= 10000;
            due("judge(" + n + ", -1)", x.judge(n, -1), OUTSIDE);
            due("judge(" + n + ", 0)", x.judge(n, 0), 0);
            due("judge(" + n + ", " + (rows - 1) + ")", x.judge(n, rows - 1), 0);
            due("judge(" + n + ", " + rows + ")", x.judge(n, rows), OUTSIDE);
            due("judge(" + n + ", " + (rows + 6000) + ")", x.judge(n, rows + 6000), OUTSIDE);
            due("judge(" + n + ", MAX)", x.judge(n, Long.MAX_VALUE), OUTSIDE);
            due("judge(" + n + ", MIN)", x.judge(n, Long.MIN_VALUE), OUTSIDE);
            due("judge(" + n + ", 2^32 and 6000)", x.judge(n, (1L << 32) + 6000), n < 3 ? OUTSIDE : 0);
        }
        judged(x, NONE, 6000, 6000, 6000, 6000);
        for (int n : new int[] {0, -1, 5, 6, Integer.MIN_VALUE, Integer.MAX_VALUE}) {
            due("judge(" + n + ", 0)", x.judge(n, 0), OUTSIDE);
            due("judge(" + n + ", 6000)", x.judge(n, 6000), OUTSIDE);
            due("judge(" + n + ", -1)", x.judge(n, -1), OUTSIDE);
        }
    }

    private static void nothingIsChanged() {
        Due.says("In what follows nothing is changed.");
        QuietLines x = Due.program("QObBc.Oa");
        x.relabel(0, 1);
        judged(x, NONE, 1000, 1100, 1200, 6000);
        due("LABELS", x.count(5), 1 + 36);
        due("ACTS", x.count(7), 1);
        due("wrong()", x.wrong(), 5);
        judged(x, 0, 6000);
        judged(x, NONE, 2001, 2101, 2222);
        due("undo()", x.undo(), 0);
        due("LABELS", x.count(5), 36);
    }
}
