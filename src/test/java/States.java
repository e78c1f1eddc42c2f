import java.util.ArrayList;
import java.util.List;

/** States at their boundaries, each made anew by its number, and all that later calls show of them. */
final class States {
    static final int MANY = 8;
    /** What is shown is asked in parts, as some questions change what others would show. */
    static final int PARTS = 4;

    private States() {
    }

    static QuietLines make(int number) {
        return switch (number) {
            case 0 -> new QuietLines();
            case 1 -> fullText();
            case 2 -> fullOfAll("QVabc9Sdab", "QOaObOcTb9SdabVeca9Bb8OeOd");
            case 3 -> fullOfAll("QOaOb", "QBb.ObOcDbTc.");
            case 4 -> someOfAll();
            case 5 -> noLines();
            case 6 -> Due.program("QObObObObObObObObOb");
            default -> Due.program("QVabc9Vabc9Vabc9Vabc9Vabc9Vabc9Vabc9Vabc9Vabc9");
        };
    }

    private static QuietLines fullText() {
        QuietLines x = Due.program("QOaOb");
        Due.write(x, "x".repeat(43));
        return x;
    }

    /** Both SLOTS, 14 ACTS, 6 HEARD, a SEED, and THE TEXT another one than THE PROGRAM. */
    private static QuietLines fullOfAll(String text, String program) {
        QuietLines x = Due.program(program);
        x.relabel(0, 3);
        x.keep(0);
        x.relabel(1, 2);
        x.tell(0, 0, 3, 7, 0, 0);
        x.keep(1);
        for (int i = 0; i < 8; i++) {
            x.tell(i % 2, 5, i % 5, 0, 0, 0);
            x.relabel(i % 3, i % 4);
        }
        for (int i = 0; i < 6; i++) {
            x.hear(i, i % 2, i, i / 3 % 2 == 0 ? 0 : i % 2);
        }
        x.seed(-123456789L);
        x.wipe();
        Due.write(x, text);
        return x;
    }

    private static QuietLines someOfAll() {
        QuietLines x = Due.program("QObBc3OcTd.");
        x.tell(0, 2, 3, 0, 1, -1);
        x.relabel(2, 1);
        x.keep(1);
        x.tell(1, 0, 4, 9, 0, 0);
        x.hear(2, 0, 1, 1);
        x.drawn(3);
        x.write('O');
        return x;
    }

    private static QuietLines noLines() {
        QuietLines x = Due.program("Q");
        x.relabel(1, 3);
        x.keep(0);
        x.hear(0, 0, 0, 0);
        return x;
    }

    static List<Long> shown(QuietLines x, int part) {
        List<Long> all = new ArrayList<>();
        switch (part) {
            case 0 -> questions(x, all);
            case 1 -> undone(x, all);
            case 2 -> goneOnFrom(x, all);
            default -> textAndSeed(x, all);
        }
        return all;
    }

    private static void lines(QuietLines x, List<Long> all, int many) {
        for (int line = 0; line < many; line++) {
            for (int what = 0; what < 5; what++) {
                all.add((long) x.line(line, what));
            }
        }
    }

    private static void counts(QuietLines x, List<Long> all) {
        for (int what = 0; what < 9; what++) {
            all.add((long) x.count(what));
        }
    }

    private static void questions(QuietLines x, List<Long> all) {
        lines(x, all, 9);
        counts(x, all);
        for (int line = 0; line < 9; line++) {
            for (int variable = 0; variable < 5; variable++) {
                all.add((long) x.label(line, variable));
            }
            all.add((long) x.context(line, 0));
            all.add((long) x.context(line, 1));
        }
        all.add((long) x.wrong());
        all.add((long) x.fault());
        for (int what = 0; what < 4; what++) {
            all.add((long) x.leak(what));
        }
        all.add((long) x.worlds(7));
        all.add((long) x.alike(7, 3, 0));
        all.add((long) x.ends(7, 3, 0, 2));
        all.add((long) x.run(7, 3, 1, 0));
        all.add((long) x.secrets(0));
        all.add((long) x.secrets(1));
        all.add((long) x.share(1, 5, true));
        all.add((long) x.muted(3, false));
    }

    private static void undone(QuietLines x, List<Long> all) {
        for (int i = 0; i < 15; i++) {
            all.add((long) x.undo());
            all.add((long) x.count(5));
            all.add((long) x.count(7));
            lines(x, all, 2);
        }
        lines(x, all, 9);
    }

    private static void goneOnFrom(QuietLines x, List<Long> all) {
        for (int slot = 1; slot >= 0; slot--) {
            all.add((long) x.again(slot));
            lines(x, all, 9);
            counts(x, all);
        }
    }

    private static void textAndSeed(QuietLines x, List<Long> all) {
        all.add(x.seed(1));
        all.add((long) x.drawn(20));
        all.add((long) x.fault());
        all.add((long) x.program());
        lines(x, all, 9);
        for (char letter : "Ka1".toCharArray()) {
            all.add((long) x.write(letter));
            all.add((long) x.fault());
        }
        all.add((long) x.program());
        lines(x, all, 9);
        counts(x, all);
        for (int i = 0; i < 7; i++) {
            all.add((long) x.secrets(0));
            all.add((long) x.hear(i, 0, i, 0));
        }
        all.add((long) x.secrets(1));
        all.add((long) x.unhear());
        all.add((long) x.wipe());
    }
}
