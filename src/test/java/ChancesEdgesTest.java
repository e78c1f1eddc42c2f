import java.math.BigInteger;

/** SHARES, what is MUTED and what is DRAWN at their boundaries, sentence by sentence (promises 22 to 25). */
public final class ChancesEdgesTest {
    private static final int UNKNOWN = Due.UNKNOWN, OUTSIDE = Due.OUTSIDE, STATE = Due.STATE, FULL = Due.FULL;
    private static final int NONE = Due.NONE;
    private static final BigInteger TWO_64 = BigInteger.ONE.shiftLeft(64);

    private ChancesEdgesTest() {
    }

    public static void main(String[] args) {
        fractions();
        orders();
        sharesTogether();
        moreThanFive();
        noSpeaker();
        refusedShares();
        mutedOnes();
        refusedMuted();
        seeds();
        drawnValues();
        drawnTimes();
        drawnFailures();
        refusedDrawn();
        nothingButTheSeed();
        Due.end();
    }

    private static void due(String call, long got, long want) {
        Due.due(call, got, want);
    }

    private static void share(String program, int line, int a, int above, int below) {
        QuietLines x = Due.program(program);
        due(program + ": share(" + line + ", " + a + ", true)", x.share(line, a, true), above);
        due(program + ": share(" + line + ", " + a + ", false)", x.share(line, a, false), below);
    }

    private static void fractions() {
        Due.says("FRACTIONS are told above (upper = true), below, in least terms; refusals of them are told likewise.");
        // like LINES share what one of them would have: 9
        share("QOb", 0, 0, 9, 1);
        share("QObOb", 1, 0, 9, 2);
        share("QObObOb", 2, 0, 3, 1);
        share("QObObObOb", 3, 0, 9, 4);
        share("QObObObObOb", 4, 0, 9, 5);
        // nothing is 0 of 1
        share("QOa", 0, 9, 0, 1);
        share("QOaOaOaOaOa", 4, 9, 0, 1);
        share("QObOcOa", 2, 9, 0, 1);
        // worked out by hand: of 24 orders 6 gain 1, 2 gain 9, 4 lose 9, 2 gain 1; less than none
        share("QObBe3Bc6OcOeTb7Oe", 6, 0, -5, 12);
        for (boolean upper : new boolean[] {true, false}) {
            due("share UNKNOWN", Due.program("QOa").share(1, 0, upper), UNKNOWN);
            due("share OUTSIDE", Due.program("QOa").share(0, 10, upper), OUTSIDE);
            due("share STATE", Due.program("QKa1").share(0, 0, upper), STATE);
            due("share FULL", Due.program("QOaOaOaOaOaOa").share(0, 0, upper), FULL);
            due("muted OUTSIDE", Due.program("QOa").muted(11, upper), OUTSIDE);
        }
    }

    private static void orders() {
        Due.says("in each order as likely (those that have not come SPEAK nothing)");
        // b alone 9 more, behind c 90 more: 99 of 2
        share("QObOc", 0, 0, 99, 2);
        share("QObOc", 1, 0, 99, 2);
        share("QObOcOb", 1, 0, (9 + 90 + 90) / 3, 1);
        // by a = 0 b is SPOKEN, by another one nothing is
        share("QBa.Ob", 1, 0, 9, 1);
        share("QBa.Ob", 1, 1, 0, 1);
        share("QBa.Ob", 1, 9, 0, 1);
        // LINE 2 speaks by c that is 0: alone 1 more, behind b 10 more; b is 9 more alone, 18 more behind it
        share("QObBc.Oa", 2, 0, 1 + 10, 2);
        share("QObBc.Oa", 0, 0, 9 + 18, 2);
        Due.says("if LINES O (REACHED or not) come one by one");
        share("QKd1Bd.Ob", 2, 0, 0, 1);
        share("QKd1Bd.ObBd.Ob", 2, 0, 0, 1);
    }

    private static void sharesTogether() {
        Due.says("by how many WORLDS of a in the mean there are more when it has come than there were");
        String[] programs = {"QObOc", "QSdbcOdBb5OcOaOe", "QObBe3Bc6OcOeTb7Oe", "QVdab2ObVecb4OeOd", "QOaOb", "QTb3OaOaOeOc"};
        for (String program : programs) {
            for (int a = 0; a <= 9; a++) {
                QuietLines x = Due.program(program);
                long above = 0;
                // 120 is the number of orders of 5, so each lower number divides it
                for (int line = 0; line < x.count(1); line++) {
                    if (x.line(line, 0) == 5) {
                        above += 120L / x.share(line, a, false) * x.share(line, a, true);
                    }
                }
                due(program + ": all SHARES by " + a, above, 120L * (x.worlds(a) - 1));
            }
        }
    }

    private static void moreThanFive() {
        Due.says("(It is FULL, if there are more than 5.)");
        for (int many = 1; many <= 9; many++) {
            QuietLines x = Due.program("Q" + "Oa".repeat(many));
            due(many + " O: share, upper", x.share(many - 1, 0, true), many > 5 ? FULL : 0);
            due(many + " O: share, lower", x.share(0, 9, false), many > 5 ? FULL : 1);
        }
        // one that never speaks counts, too; another KIND does not
        due("6 O, one behind THE END", Due.program("QOaOaOaOaOaBa.Ob").share(0, 0, true), FULL);
        due("5 O and a D", Due.program("QOaOaOaOaOaDa").share(0, 0, false), 1);
        QuietLines x = Due.program("QOaOaOaOaOaOa");
        x.tell(5, 6, 0, 0, 0, 0);
        due("a sixth one told otherwise", x.share(0, 0, false), 1);
        x.undo();
        due("and undone", x.share(0, 0, false), FULL);
    }

    private static void noSpeaker() {
        Due.says("UNKNOWN: line; OUTSIDE: a; STATE: it is no O; FULL.");
        QuietLines x = Due.program("QKa1SabcVabc.Ba.Ta.DaOa");
        for (int line = 0; line < 6; line++) {
            due("share(" + line + ", 0, true)", x.share(line, 0, true), STATE);
            due("share(" + line + ", 0, false)", x.share(line, 0, false), STATE);
        }
        // 0 is SPOKEN, or nothing
        due("share(6, 0, true)", x.share(6, 0, true), 1);
        due("share(6, 0, false)", x.share(6, 0, false), 1);
    }

    private static void refusedShares() {
        for (boolean upper : new boolean[] {true, false}) {
            QuietLines full = Due.program("QObObObObObObDa");
            due("share: line, a, ahead of FULL: UNKNOWN", full.share(7, 10, upper), UNKNOWN);
            due("share: line: UNKNOWN", full.share(-1, 0, upper), UNKNOWN);
            due("share: a, no O: OUTSIDE", full.share(6, 10, upper), OUTSIDE);
            due("share: a, FULL: OUTSIDE", full.share(0, -1, upper), OUTSIDE);
            due("share: no O, FULL: STATE", full.share(6, 0, upper), STATE);
            due("share: FULL", full.share(5, 0, upper), FULL);
            QuietLines x = Due.program("QOa");
            due("share: a = -1", x.share(0, -1, upper), OUTSIDE);
            due("share: a = 0", x.share(0, 0, upper), upper ? 0 : 1);
            due("share: a = 9", x.share(0, 9, upper), upper ? 0 : 1);
            due("share: a = 10", x.share(0, 10, upper), OUTSIDE);
            due("share: line = 1", x.share(1, 0, upper), UNKNOWN);
            for (int far : Due.FAR) {
                due("share: line = " + far, x.share(far, far, upper), UNKNOWN);
                due("share: a = " + far, x.share(0, far, upper), OUTSIDE);
            }
        }
    }

    private static void mutedOnes() {
        Due.says("each LINE O is muted by x tenths (0 to 10), by itself: that none that is WRONG is left: a FRACTION.");
        for (int wrong = 0; wrong <= 9; wrong++) {
            QuietLines x = Due.program("Q" + "Ob".repeat(wrong) + "Oa".repeat(9 - wrong));
            BigInteger below = BigInteger.TEN.pow(wrong);
            for (int tenths = 0; tenths <= 10; tenths++) {
                BigInteger above = BigInteger.valueOf(tenths).pow(wrong);
                BigInteger divisor = above.gcd(below);
                String call = wrong + " WRONG: muted(" + tenths + ", ";
                due(call + "true)", x.muted(tenths, true), above.divide(divisor).longValue());
                due(call + "false)", x.muted(tenths, false), below.divide(divisor).longValue());
            }
        }
        QuietLines none = new QuietLines();
        due("no LINE: muted(0, true)", none.muted(0, true), 1);
        due("no LINE: muted(0, false)", none.muted(0, false), 1);
        // by 9 that are WRONG, at its least and at its most
        QuietLines nine = Due.program("QObObObObObObObObOb");
        due("muted(1, true)", nine.muted(1, true), 1);
        due("muted(1, false)", nine.muted(1, false), 1000000000);
        due("muted(9, true)", nine.muted(9, true), 387420489);
        due("muted(9, false)", nine.muted(9, false), 1000000000);
        nine.relabel(1, 0);
        due("QUIET: muted(1, false)", nine.muted(1, false), 1);
    }

    private static void refusedMuted() {
        Due.says("`int muted(int x, boolean upper)`: MUTED. OUTSIDE.");
        QuietLines x = Due.program("QOb");
        for (boolean upper : new boolean[] {true, false}) {
            due("muted(-1)", x.muted(-1, upper), OUTSIDE);
            due("muted(0)", x.muted(0, upper), upper ? 0 : 1);
            due("muted(10)", x.muted(10, upper), 1);
            due("muted(11)", x.muted(11, upper), OUTSIDE);
            for (int far : Due.FAR) {
                due("muted(" + far + ")", x.muted(far, upper), OUTSIDE);
            }
        }
    }

    private static void seeds() {
        Due.says("THE SEED is v: what it was.");
        QuietLines x = new QuietLines();
        long was = 0;
        for (long v : new long[] {0, 1, -1, Long.MAX_VALUE, Long.MIN_VALUE, 1L << 32, Integer.MIN_VALUE, -9, 0}) {
            due("seed(" + v + ")", x.seed(v), was);
            was = v;
        }
        Due.says("(THE SEED, a long; 0 at first)");
        due("seed(0) of a new object", new QuietLines().seed(0), 0);
    }

    private static long next(long seed) {
        BigInteger x = BigInteger.valueOf(seed).multiply(new BigInteger("6364136223846793005"))
                .add(new BigInteger("1442695040888963407")).mod(TWO_64);
        return x.longValue();
    }

    /** The upper 31 bits of 64, as a number that is 0 or more. */
    private static long upper31(long x) {
        return new BigInteger(Long.toUnsignedString(x)).divide(BigInteger.TWO.pow(33)).longValueExact();
    }

    private static final long[] SEEDS = {0, 1, 5, -1, 77, Long.MAX_VALUE, Long.MIN_VALUE, 1L << 33, -(1L << 33), 123456789L};

    private static void drawnValues() {
        Due.says("of its upper 31 bits what is left by 10 is a, that by 16 (cut), left by 10, b, that by 256 (cut), left by 10, c:");
        for (long first : SEEDS) {
            long seed = first;
            for (int i = 0; i < 10; i++) {
                long next = next(seed);
                long bits = upper31(next);
                long[] values = {bits % 10, bits / 16 % 10, bits / 256 % 10};
                for (int v = 0; v < 3; v++) {
                    QuietLines x = Due.program("QO" + "abc".charAt(v));
                    x.seed(seed);
                    due("drawn(1) by " + seed + " of " + "abc".charAt(v), x.drawn(1), 1 + values[v]);
                    due("THE SEED behind it", x.seed(0), next);
                }
                seed = next;
            }
        }
        Due.says("(64 bits, wrapping)");
        // the first one is worked out by hand: 0 times anything, and the other number
        QuietLines x = new QuietLines();
        x.drawn(1);
        due("THE SEED", x.seed(-1), 1442695040888963407L);
        x.drawn(1);
        due("THE SEED", x.seed(0), 1442695040888963407L - 6364136223846793005L);
    }

    private static void drawnTimes() {
        Due.says("m times (1 to 20) x");
        for (int m = 1; m <= 20; m++) {
            QuietLines x = Due.program("QOaObOcBa.OaTb.Oc");
            QuietLines one = Due.program("QOaObOcBa.OaTb.Oc");
            x.seed(m * 1000003L);
            one.seed(m * 1000003L);
            int together = 0;
            for (int i = 0; i < m; i++) {
                together += one.drawn(1);
            }
            due("drawn(" + m + ")", x.drawn(m), together);
            due("THE SEED behind it", x.seed(0), one.seed(0));
        }
    }

    private static void drawnFailures() {
        Due.says("how many are SPOKEN and their values, together, each time, together, and 100 for each FAILURE.");
        int[][] want = {{1, 100}, {2, 200}, {20, 2000}};
        for (int[] one : want) {
            due("FAILURE alone: drawn(" + one[0] + ")", Due.program("QKd1Td.").drawn(one[0]), one[1]);
            due("none: drawn(" + one[0] + ")", Due.program("QKd1Td2").drawn(one[0]), 0);
            due("by B: drawn(" + one[0] + ")", Due.program("QKd1Bd.").drawn(one[0]), 0);
            due("SPOKEN 0: drawn(" + one[0] + ")", Due.program("QOd").drawn(one[0]), one[0]);
        }
        due("as much as can be: drawn(20)", Due.program("QKd9OdOdOdOdOdOdOdTd.").drawn(20), 20 * (7 + 63 + 100));
        due("without FAILURE: drawn(20)", Due.program("QKd9OdOdOdOdOdOdOdOd").drawn(20), 20 * (8 + 72));
        due("no LINE: drawn(20)", new QuietLines().drawn(20), 0);
        // by seed 0 b is 7, then 6, then 1; c is 1, 1, 0
        due("in FAILURE by b: drawn(3)", Due.program("QTb.").drawn(3), 300);
        due("in FAILURE by c: drawn(3)", Due.program("QTc.").drawn(3), 200);
    }

    private static void refusedDrawn() {
        Due.says("OUTSIDE: m.");
        QuietLines x = Due.program("QOa");
        x.seed(42);
        for (int m : new int[] {0, -1, -20, 21, 22, Integer.MIN_VALUE, Integer.MAX_VALUE}) {
            due("drawn(" + m + ")", x.drawn(m), OUTSIDE);
            due("THE SEED stays", x.seed(42), 42);
        }
        x.drawn(1);
        due("THE SEED behind drawn(1)", x.seed(42), next(42));
        x.drawn(20);
        long seed = 42;
        for (int i = 0; i < 20; i++) {
            seed = next(seed);
        }
        due("THE SEED behind drawn(20)", x.seed(42), seed);
    }

    private static void nothingButTheSeed() {
        Due.says("(Nothing changes but THE SEED.)");
        QuietLines x = Due.program("QObKa1Tb.");
        x.relabel(0, 3);
        x.keep(0);
        x.hear(0, 0, 0, 0);
        int[] counts = new int[9];
        for (int what = 0; what < 9; what++) {
            counts[what] = x.count(what);
        }
        x.drawn(20);
        for (int what = 0; what < 9; what++) {
            due("count(" + what + ")", x.count(what), counts[what]);
        }
        Due.line(x, 1, 0, 0, 1, NONE, NONE);
        due("label(0, 1)", x.label(0, 1), 1);
        due("run(0, 4, 0, 0)", x.run(0, 4, 0, 0), 4);
        due("undo()", x.undo(), 0);
        due("again(0)", x.again(0), 3);
    }
}
