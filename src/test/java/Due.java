/** Compares answers with those that are due, for the tests of this project. */
final class Due {
    private static int wrong = 0;
    private static int looked = 0;

    private Due() {
    }

    static void due(String call, long got, long want) {
        looked++;
        if (got != want) {
            wrong++;
            System.out.println(call + " answered " + got + ", due is " + want);
        }
    }

    static void holds(String what, boolean so) {
        due(what, so ? 1 : 0, 1);
    }

    static int wrongSoFar() {
        return wrong;
    }

    static void end() {
        System.out.println(looked + " answers, " + wrong + " not as due");
        if (wrong != 0 || looked == 0) {
            System.exit(1);
        }
    }

    /** A new object with that THE TEXT. */
    static QuietLines text(String letters) {
        QuietLines x = new QuietLines();
        write(x, letters);
        return x;
    }

    static void write(QuietLines x, String letters) {
        for (int i = 0; i < letters.length(); i++) {
            x.write(letters.charAt(i));
        }
    }

    /** A new object with that PROGRAM. */
    static QuietLines program(String letters) {
        QuietLines x = text(letters);
        holds(letters + " is a PROGRAM", x.program() >= 0);
        return x;
    }
}
