import java.util.Random;

/** Calls by chance, from fixed seeds, on the class and on the slow model of the document: all answers are alike. */
public final class ChanceTest {
    private static final int[] ODD = {-1, -2, -9, 10, 11, 48, 255, 256, Integer.MAX_VALUE, Integer.MIN_VALUE};

    private final Random chance;
    private final QuietLines x = new QuietLines();
    private final Model model = new Model();
    private final StringBuilder told = new StringBuilder();
    private final boolean wild;
    private int calls = 0;

    private ChanceTest(long seed) {
        chance = new Random(seed);
        wild = seed % 2 == 1;
    }

    public static void main(String[] args) {
        int rounds = args.length > 0 ? Integer.parseInt(args[0]) : 500;
        for (int seed = 0; seed < rounds && Due.wrongSoFar() == 0; seed++) {
            new ChanceTest(seed).round();
        }
        Due.end();
    }

    private void round() {
        while (calls < 512 && Due.wrongSoFar() == 0) {
            if (chance.nextInt(40) == 0 || calls == 0 && chance.nextInt(10) != 0) {
                newText();
            } else {
                oneCall();
            }
        }
        if (Due.wrongSoFar() != 0) {
            System.out.println(told);
        }
    }

    private void same(String call, long got, long want) {
        calls++;
        told.append(call).append(" -> ").append(want).append('\n');
        Due.due(call, got, want);
    }

    /** A number below the bound, seldom one that is not. */
    private int below(int bound) {
        if (wild && chance.nextInt(25) == 0) {
            return chance.nextBoolean() ? bound : ODD[chance.nextInt(ODD.length)];
        }
        return chance.nextInt(bound);
    }

    private void newText() {
        same("wipe()", x.wipe(), model.wipe());
        String letters = text();
        if (wild && chance.nextInt(3) == 0) {
            letters = spoiled(letters);
        }
        boolean each = chance.nextInt(8) == 0;
        for (char letter : letters.toCharArray()) {
            same("write(" + (int) letter + ")", x.write(letter), model.write(letter));
            if (each) {
                same("fault()", x.fault(), model.fault());
            }
        }
        same("fault()", x.fault(), model.fault());
        same("program()", x.program(), model.program());
    }

    private String text() {
        StringBuilder letters = new StringBuilder("Q");
        int many = chance.nextInt(4) == 0 ? chance.nextInt(10) : 5 + chance.nextInt(5);
        int last = wild && chance.nextInt(6) == 0 ? 9 : many;
        for (int i = 0; i < many; i++) {
            letters.append(line(i, last));
        }
        return letters.toString();
    }

    private String line(int number, int last) {
        String t = chance.nextInt(5) == 0 ? "." : "" + (number + 1 + chance.nextInt(Math.max(1, last - number)));
        char x = variable();
        return switch (chance.nextInt(10)) {
            case 0 -> "K" + x + chance.nextInt(10);
            case 1, 2 -> "S" + x + variable() + variable();
            case 3 -> "V" + x + variable() + variable() + t;
            case 4, 5 -> "B" + x + t;
            case 6 -> "T" + x + t;
            case 7, 8 -> "O" + x;
            default -> "D" + x;
        };
    }

    private char variable() {
        return (char) ('a' + chance.nextInt(5));
    }

    private String spoiled(String letters) {
        String all = "QKSVBTODabcdefq0123456789.\0\u00ff@`/:";
        int place = chance.nextInt(letters.length() + 1);
        char letter = all.charAt(chance.nextInt(all.length()));
        return switch (chance.nextInt(4)) {
            case 0 -> letters.substring(0, place);
            case 1 -> letters.substring(0, place) + letter + letters.substring(place);
            case 2 -> place < letters.length()
                    ? letters.substring(0, place) + letter + letters.substring(place + 1) : letters + letter;
            default -> letters + letters.substring(1);
        };
    }

    private void oneCall() {
        int kind = chance.nextInt(30);
        if (kind < 10) {
            changes(kind);
        } else if (kind < 20) {
            questions(kind);
        } else {
            more(kind);
        }
    }

    private void changes(int kind) {
        switch (kind) {
            case 0 -> {
                int letter = wild ? below(256) : "QOaKb1".charAt(chance.nextInt(6));
                same("write(" + letter + ")", x.write(letter), model.write(letter));
            }
            case 1, 2, 3 -> tell();
            case 4, 5 -> {
                int input = below(3);
                int label = below(4);
                same("relabel(" + input + ", " + label + ")", x.relabel(input, label), model.relabel(input, label));
            }
            case 6 -> same("undo()", x.undo(), model.undo());
            case 7 -> {
                int slot = below(2);
                same("keep(" + slot + ")", x.keep(slot), model.keep(slot));
            }
            case 8 -> {
                int slot = below(2);
                same("again(" + slot + ")", x.again(slot), model.again(slot));
            }
            default -> {
                long v = chance.nextLong();
                same("seed(" + v + ")", x.seed(v), model.seed(v));
            }
        }
    }

    private void tell() {
        int line = below(9);
        int kind = below(7);
        boolean yz = kind == 1 || kind == 2;
        boolean hasT = kind >= 2 && kind <= 4;
        int px = below(5);
        int y = kind == 0 ? below(10) : yz ? below(5) : below(1);
        int z = yz ? below(5) : below(1);
        int t = !hasT ? below(1) : chance.nextInt(5) == 0 ? -1 : wild ? below(11) : line + 1 + chance.nextInt(3);
        String call = "tell(" + line + ", " + kind + ", " + px + ", " + y + ", " + z + ", " + t + ")";
        same(call, x.tell(line, kind, px, y, z, t), model.tell(line, kind, px, y, z, t));
    }

    private void questions(int kind) {
        int a = below(10);
        int b = below(10);
        int c = below(10);
        int line = below(9);
        switch (kind) {
            case 10 -> {
                int what = below(5);
                same("line(" + line + ", " + what + ")", x.line(line, what), model.line(line, what));
            }
            case 11, 12 -> {
                int v = below(5);
                same("label(" + line + ", " + v + ")", x.label(line, v), model.label(line, v));
            }
            case 13, 14 -> {
                int what = below(2);
                same("context(" + line + ", " + what + ")", x.context(line, what), model.context(line, what));
            }
            case 15 -> same("wrong()", x.wrong(), model.wrong());
            case 16 -> {
                int i = below(4);
                String call = "run(" + a + ", " + b + ", " + c + ", " + i + ")";
                same(call, x.run(a, b, c, i), model.run(a, b, c, i));
            }
            case 17 -> {
                int what = below(3);
                String call = "ends(" + a + ", " + b + ", " + c + ", " + what + ")";
                same(call, x.ends(a, b, c, what), model.ends(a, b, c, what));
            }
            case 18 -> {
                int what = below(4);
                same("leak(" + what + ")", x.leak(what), model.leak(what));
            }
            default -> same("worlds(" + a + ")", x.worlds(a), model.worlds(a));
        }
    }

    private void more(int kind) {
        int a = below(10);
        boolean upper = chance.nextBoolean();
        switch (kind) {
            case 20 -> {
                int b = below(10);
                int c = below(10);
                same("alike(" + a + ", " + b + ", " + c + ")", x.alike(a, b, c), model.alike(a, b, c));
            }
            case 21, 22 -> judge();
            case 23 -> {
                int i = chance.nextInt(3) == 0 ? below(9) : below(3);
                int v = below(10);
                int was = below(2);
                String call = "hear(" + a + ", " + i + ", " + v + ", " + was + ")";
                same(call, x.hear(a, i, v, was), model.hear(a, i, v, was));
            }
            case 24 -> {
                if (chance.nextInt(3) == 0) {
                    same("unhear()", x.unhear(), model.unhear());
                }
                int what = below(2);
                same("secrets(" + what + ")", x.secrets(what), model.secrets(what));
            }
            case 25, 26 -> {
                int line = below(9);
                same("share(" + line + ", " + a + ", " + upper + ")", x.share(line, a, upper), model.share(line, a, upper));
            }
            case 27 -> {
                int tenths = below(11);
                same("muted(" + tenths + ", " + upper + ")", x.muted(tenths, upper), model.muted(tenths, upper));
            }
            case 28 -> {
                int m = below(21);
                same("drawn(" + m + ")", x.drawn(m), model.drawn(m));
            }
            default -> {
                int what = below(9);
                same("count(" + what + ")", x.count(what), model.count(what));
            }
        }
    }

    /** Doings of which most are so, so that those behind them are looked at too. */
    private void judge() {
        int n = 1 + below(4);
        long row = 0;
        for (int i = 0; i < Math.min(n, 4); i++) {
            row = row * 10000 + doing();
        }
        if (wild && chance.nextInt(10) == 0) {
            row = chance.nextBoolean() ? chance.nextLong() : row * 10 + 1;
        }
        same("judge(" + n + ", " + row + ")", x.judge(n, row), model.judge(n, row));
    }

    private int doing() {
        if (chance.nextInt(6) == 0) {
            return chance.nextInt(10000);
        }
        int line = chance.nextInt(9);
        int v = chance.nextInt(5);
        int a = chance.nextInt(10);
        return switch (chance.nextInt(7)) {
            case 0 -> 1000 + 100 * chance.nextInt(3) + chance.nextInt(4);
            case 1 -> 2000 + 100 * line + 10 * v + Math.max(0, model.label(line, v));
            case 2 -> 3000 + 100 * line + Math.max(0, model.context(line, 0));
            case 3 -> 4000 + 100 * line + Math.max(0, model.context(line, 1));
            case 4 -> 5000 + 100 * line;
            case 5 -> 6000;
            default -> 7000 + 100 * a + Math.min(9, model.worlds(a) + chance.nextInt(2));
        };
    }
}
