import java.io.IOException;
import java.nio.file.Files;
import java.nio.file.Path;

/** Compares answers with those that are due, for the tests of this project. */
final class Due {
    static final int UNKNOWN = -1, OUTSIDE = -2, STATE = -3, FULL = -4, NONE = -9;
    /** Numbers that no call takes but as a letter's, a seed's or a place's. */
    static final int[] FAR = {Integer.MIN_VALUE, Integer.MIN_VALUE + 1, -1000, 1000, 1 << 16, 1 << 30, Integer.MAX_VALUE};

    private static int wrong = 0;
    private static int looked = 0;
    private static String sentence = "";
    private static String document = null;

    private Due() {
    }

    /** What is looked at from here on is asked for by these words, which must stand in the document. */
    static void says(String words) {
        sentence = "";
        if (document == null) {
            document = read();
        }
        holds("the document says: " + words, document.contains(words));
        sentence = "'" + words + "': ";
    }

    private static String read() {
        try {
            return Files.readString(Path.of("../shared/DOC.md")).replaceAll("\\s+", " ");
        } catch (IOException none) {
            return "";
        }
    }

    static void due(String call, long got, long want) {
        looked++;
        if (got != want) {
            wrong++;
            System.out.println(sentence + call + " answered " + got + ", due is " + want);
        }
    }

    static void holds(String what, boolean so) {
        due(what, so ? 1 : 0, 1);
    }

    static int wrongSoFar() {
        return wrong;
    }

    static void end() {
        System.out.println(looked + " answers, " + wrong + " not as due");
        if (wrong != 0 || looked == 0) {
            System.exit(1);
        }
    }

    /** A new object with that THE TEXT. */
    static QuietLines text(String letters) {
        QuietLines x = new QuietLines();
        write(x, letters);
        return x;
    }

    static void write(QuietLines x, String letters) {
        for (int i = 0; i < letters.length(); i++) {
            x.write(letters.charAt(i));
        }
    }

    /** A new object with that PROGRAM. */
    static QuietLines program(String letters) {
        QuietLines x = text(letters);
        holds(letters + " is a PROGRAM", x.program() >= 0);
        return x;
    }

    /** A LINE is as it is told here: KIND, x, y, z, t. */
    static void line(QuietLines x, int line, int... want) {
        for (int what = 0; what < want.length; what++) {
            due("line(" + line + ", " + what + ")", x.line(line, what), want[what]);
        }
    }

    /** What is SPOKEN is this, no more and no less. */
    static void spoken(String program, int a, int b, int c, int... want) {
        QuietLines x = program(program);
        String run = program + " by " + a + ", " + b + ", " + c;
        for (int i = 0; i < want.length; i++) {
            due(run + ": run, " + i, x.run(a, b, c, i), want[i]);
        }
        due(run + ": run behind the last", x.run(a, b, c, want.length), NONE);
        due(run + ": ends, 0", x.ends(a, b, c, 0), want.length);
    }
}
