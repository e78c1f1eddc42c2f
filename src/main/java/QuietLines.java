import java.util.Arrays;

/** Programs that may know a secret and must not tell it. The words in capitals are those of shared/DOC.md. */
public final class QuietLines {
    public static final int UNKNOWN = -1, OUTSIDE = -2, STATE = -3, FULL = -4, NONE = -9;

    private static final int MOST_LETTERS = 48, MOST_LINES = 9, MOST_ACTS = 14, MOST_HEARD = 6;
    private static final int MOST_SHARERS = 5, MOST_DRAWN = 20, MOST_DOINGS = 4;
    private static final int VARIABLES = 5, INPUTS = 3, LABELS = 4, FIGURES = 10, PAIRS = 100, SLOTS = 2;

    /** The VARIABLE that takes what is THROWN. */
    private static final int E = 4;

    private static final int BECOMES = 0, SUM = 1, DIVISION = 2, BRANCH = 3, THROW = 4, SPEAK = 5, FREE = 6, KINDS = 7;
    private static final String KIND_LETTERS = "KSVBTOD";

    /** The parts of a LINE, numbered as the call line asks for them. */
    private static final int KIND = 0, X = 1, Y = 2, Z = 3, T = 4, PARTS = 5;
    private static final int FULL_STOP = -1;

    /** By KIND, which parts a LINE has, as bits. */
    private static final int[] PARTS_OF_KIND = {7, 15, 31, 19, 19, 3, 3};
    private static final int[] FACTORIALS = {1, 1, 2, 6, 24, 120};

    private static final int EVERY_LINE = (1 << MOST_LINES) - 1;
    private static final long FACTOR = 6364136223846793005L, ADDEND = 1442695040888963407L;

    private final Text text = new Text();
    private final Lines draft = new Lines();
    private final Lines lines = new Lines();
    private final Acts acts = new Acts();
    private final Lines[] kept = {new Lines(), new Lines()};
    private final boolean[] isKept = new boolean[SLOTS];
    private final int[] toldParts = new int[PARTS];
    private final Flow flow = new Flow();
    private final Runner one = new Runner();
    private final Runner other = new Runner();
    private final Listener listener = new Listener();
    private final Heard heard = new Heard();
    private final Judge judging = new Judge();
    private long theSeed = 0;

    public QuietLines() {
    }

    // ---- the program

    public int write(int letter) {
        if (letter < 0 || letter > 255) {
            return OUTSIDE;
        }
        return text.add(letter) ? text.size : FULL;
    }

    public int wipe() {
        int was = text.size;
        text.size = 0;
        return was;
    }

    public int fault() {
        return text.readInto(draft);
    }

    public int program() {
        if (text.readInto(draft) != NONE) {
            return STATE;
        }
        lines.copy(draft);
        acts.size = 0;
        for (int slot = 0; slot < SLOTS; slot++) {
            isKept[slot] = false;
        }
        return lines.size;
    }

    public int line(int line, int what) {
        if (!lines.has(line)) {
            return UNKNOWN;
        }
        return isBelow(what, PARTS) ? lines.parts[line][what] : OUTSIDE;
    }

    // ---- acts

    public int tell(int line, int kind, int x, int y, int z, int t) {
        if (!lines.has(line)) {
            return UNKNOWN;
        }
        toldParts[KIND] = kind;
        toldParts[X] = x;
        toldParts[Y] = y;
        toldParts[Z] = z;
        toldParts[T] = t;
        if (!makeTold(line)) {
            return OUTSIDE;
        }
        int was = lines.parts[line][KIND];
        acts.addTold(lines, line);
        System.arraycopy(toldParts, 0, lines.parts[line], 0, PARTS);
        return was;
    }

    /** Whether toldParts can be that LINE; what its KIND has not becomes NONE, as LINES hold it. */
    private boolean makeTold(int line) {
        int kind = toldParts[KIND];
        if (!isBelow(kind, KINDS)) {
            return false;
        }
        for (int part = X; part < PARTS; part++) {
            if (Lines.hasPart(kind, part)) {
                if (!Lines.fits(kind, part, toldParts[part], line, lines.size)) {
                    return false;
                }
            } else if (toldParts[part] != 0) {
                return false;
            } else {
                toldParts[part] = NONE;
            }
        }
        return true;
    }

    public int relabel(int input, int label) {
        if (!isBelow(input, INPUTS)) {
            return UNKNOWN;
        }
        if (!isBelow(label, LABELS)) {
            return OUTSIDE;
        }
        int was = lines.labels[input];
        acts.addLabelled(lines, input);
        lines.labels[input] = label;
        return was;
    }

    public int undo() {
        return acts.takeBack(lines) ? acts.size : STATE;
    }

    // ---- labels

    public int label(int line, int variable) {
        if (!lines.has(line) || !isBelow(variable, VARIABLES)) {
            return UNKNOWN;
        }
        flow.read(lines, lines.labels);
        return flow.isReached(line) ? flow.labels[line][variable] : NONE;
    }

    public int context(int line, int what) {
        if (!lines.has(line)) {
            return UNKNOWN;
        }
        if (!isBelow(what, 2)) {
            return OUTSIDE;
        }
        flow.read(lines, lines.labels);
        if (what == 1) {
            return flow.meetings[line];
        }
        return flow.isReached(line) ? flow.contexts[line] : NONE;
    }

    public int wrong() {
        flow.read(lines, lines.labels);
        return flow.wrongLines;
    }

    // ---- runs

    public int run(int a, int b, int c, int i) {
        if (!areFigures(a, b, c)) {
            return OUTSIDE;
        }
        one.go(lines, a, b, c);
        return one.spoken(i);
    }

    public int ends(int a, int b, int c, int what) {
        if (!areFigures(a, b, c) || !isBelow(what, 3)) {
            return OUTSIDE;
        }
        one.go(lines, a, b, c);
        if (what == 0) {
            return one.many;
        }
        if (what == 1) {
            return one.failed ? 1 : 0;
        }
        return one.values[E];
    }

    public int leak(int what) {
        if (!isBelow(what, 4)) {
            return OUTSIDE;
        }
        for (int a = 0; a < FIGURES; a++) {
            int otherPair = leastUnlike(a);
            if (otherPair != NONE) {
                return what == 0 ? a : what == 1 ? 0 : what == 2 ? otherPair : one.firstUnlike(other);
            }
        }
        return NONE;
    }

    /**
     * The least pair of b, c by which other SPEAKS otherwise than one does by the pair 0, or NONE. The pair 0 is
     * always the one of the least LEAK: if all pairs are like it, they are like one another.
     */
    private int leastUnlike(int a) {
        one.go(lines, a, 0, 0);
        for (int pair = 1; pair < PAIRS; pair++) {
            other.go(lines, a, pair / FIGURES, pair % FIGURES);
            if (one.firstUnlike(other) != NONE) {
                return pair;
            }
        }
        return NONE;
    }

    public int worlds(int a) {
        if (!isBelow(a, FIGURES)) {
            return OUTSIDE;
        }
        listener.listen(lines, a);
        return listener.unlikeRows(EVERY_LINE);
    }

    public int alike(int a, int b, int c) {
        if (!areFigures(a, b, c)) {
            return OUTSIDE;
        }
        listener.listen(lines, a);
        return listener.rowsLike(FIGURES * b + c);
    }

    public int judge(int n, long row) {
        if (n < 1 || n > MOST_DOINGS || row < 0) {
            return OUTSIDE;
        }
        return row < Judge.rowsOf(n) ? judging.firstNotSo(lines, n, row) : OUTSIDE;
    }

    // ---- heard

    public int hear(int a, int i, int v, int was) {
        if (!isBelow(a, FIGURES) || !isBelow(i, MOST_LINES) || !isBelow(v, FIGURES) || !isBelow(was, 2)) {
            return OUTSIDE;
        }
        return heard.add(a, i, v, was) ? heard.size : FULL;
    }

    public int unhear() {
        int was = heard.size;
        heard.size = 0;
        return was;
    }

    public int secrets(int what) {
        if (!isBelow(what, 2)) {
            return OUTSIDE;
        }
        int many = 0;
        for (int pair = 0; pair < PAIRS; pair++) {
            if (heard.isAllSo(lines, one, pair / FIGURES, pair % FIGURES)) {
                if (what == 1) {
                    return pair;
                }
                many++;
            }
        }
        return what == 0 ? many : NONE;
    }

    // ---- shares, chances

    public int share(int line, int a, boolean upper) {
        if (!lines.has(line)) {
            return UNKNOWN;
        }
        if (!isBelow(a, FIGURES)) {
            return OUTSIDE;
        }
        if (lines.parts[line][KIND] != SPEAK) {
            return STATE;
        }
        int speakers = lines.linesOfKind(SPEAK);
        int many = Integer.bitCount(speakers);
        if (many > MOST_SHARERS) {
            return FULL;
        }
        return fraction(gainInAllOrders(speakers, line, a), FACTORIALS[many], upper);
    }

    /** By how many WORLDS there are more when the LINE has come, all orders of the speakers together. */
    private int gainInAllOrders(int speakers, int line, int a) {
        int others = speakers & ~(1 << line);
        int manyOthers = Integer.bitCount(others);
        if (manyOthers >= FACTORIALS.length) {
            return 0;
        }
        int gain = 0;
        listener.listen(lines, a);
        for (int come = 0; come <= others; come++) {
            if ((come & others) == come) {
                int ahead = Integer.bitCount(come);
                int orders = FACTORIALS[ahead] * FACTORIALS[manyOthers - ahead];
                gain += orders * (listener.unlikeRows(come | 1 << line) - listener.unlikeRows(come));
            }
        }
        return gain;
    }

    public int muted(int x, boolean upper) {
        if (!isBelow(x, 11)) {
            return OUTSIDE;
        }
        flow.read(lines, lines.labels);
        int wrongOnes = Integer.bitCount(flow.wrongLines);
        int above = 1;
        int below = 1;
        for (int i = 0; i < wrongOnes; i++) {
            above *= x;
            below *= 10;
        }
        return fraction(above, below, upper);
    }

    public long seed(long v) {
        long was = theSeed;
        theSeed = v;
        return was;
    }

    public int drawn(int m) {
        if (m < 1 || m > MOST_DRAWN) {
            return OUTSIDE;
        }
        int together = 0;
        for (int i = 0; i < m; i++) {
            theSeed = theSeed * FACTOR + ADDEND;
            int bits = (int) (theSeed >>> 33);
            one.go(lines, bits % 10, bits / 16 % 10, bits / 256 % 10);
            together += one.many + one.sumOfSpoken() + (one.failed ? 100 : 0);
        }
        return together;
    }

    // ---- slots

    public int keep(int slot) {
        if (!isBelow(slot, SLOTS)) {
            return UNKNOWN;
        }
        kept[slot].copy(lines);
        isKept[slot] = true;
        return lines.size;
    }

    public int again(int slot) {
        if (!isBelow(slot, SLOTS)) {
            return UNKNOWN;
        }
        if (!isKept[slot]) {
            return STATE;
        }
        lines.copy(kept[slot]);
        acts.size = 0;
        return lines.size;
    }

    public int count(int what) {
        flow.read(lines, lines.labels);
        switch (what) {
            case 0:
                return text.size;
            case 1:
                return lines.size;
            case 2:
                return flow.reached;
            case 3:
                return Integer.bitCount(lines.linesOfKind(SPEAK));
            case 4:
                return Integer.bitCount(lines.linesOfKind(FREE) & flow.reached);
            case 5:
                return lines.labels[0] + 4 * lines.labels[1] + 16 * lines.labels[2];
            case 6:
                return flow.wrongLines == 0 ? 1 : 0;
            case 7:
                return acts.size;
            case 8:
                return heard.size;
            default:
                return OUTSIDE;
        }
    }

    // ---- numbers

    private static boolean isBelow(int number, int bound) {
        return number >= 0 && number < bound;
    }

    private static boolean areFigures(int a, int b, int c) {
        return isBelow(a, FIGURES) && isBelow(b, FIGURES) && isBelow(c, FIGURES);
    }

    private static int fraction(int above, int below, boolean upper) {
        int divisor = greatestDivisor(Math.abs(above), below);
        if (divisor == 0) {
            return 0;
        }
        return upper ? above / divisor : below / divisor;
    }

    private static int greatestDivisor(int one, int two) {
        int a = one;
        int b = two;
        for (int i = 0; i < 64 && b != 0; i++) {
            int left = a % b;
            a = b;
            b = left;
        }
        return a;
    }

    /** LINES and the LABELS of inputs: all that TOLD and LABELLED change and that a SLOT keeps. */
    private static final class Lines {
        int size = 0;
        /** By LINE and part; a part that the KIND has not is NONE. */
        final int[][] parts = new int[MOST_LINES][PARTS];
        final int[] labels = {0, 1, 2};

        boolean has(int line) {
            return isBelow(line, size);
        }

        void clear() {
            size = 0;
            labels[0] = 0;
            labels[1] = 1;
            labels[2] = 2;
        }

        void copy(Lines from) {
            size = from.size;
            for (int line = 0; line < MOST_LINES; line++) {
                System.arraycopy(from.parts[line], 0, parts[line], 0, PARTS);
            }
            System.arraycopy(from.labels, 0, labels, 0, INPUTS);
        }

        static boolean hasPart(int kind, int part) {
            return isBelow(kind, KINDS) && (PARTS_OF_KIND[kind] >> part & 1) == 1;
        }

        /** Whether a part that the KIND has can be that value in that LINE, where a t is the last one at most. */
        static boolean fits(int kind, int part, int value, int line, int last) {
            if (part == T) {
                return value == FULL_STOP || value > line && value <= last;
            }
            return isBelow(value, kind == BECOMES && part == Y ? FIGURES : VARIABLES);
        }

        /** Where one goes on by t: a LINE, or THE END as the number of LINES; the next one, if it has no t. */
        int targetOf(int line) {
            int t = parts[line][T];
            return t == NONE ? line + 1 : t == FULL_STOP ? size : t;
        }

        int linesOfKind(int kind) {
            int bits = 0;
            for (int line = 0; line < size; line++) {
                if (parts[line][KIND] == kind) {
                    bits |= 1 << line;
                }
            }
            return bits;
        }
    }

    /** THE TEXT, read letter by letter. */
    private static final class Text {
        private static final int NO_PART = 0, NO_VALUE = -2;

        int size = 0;
        private final int[] letters = new int[MOST_LETTERS];

        boolean add(int letter) {
            if (size >= MOST_LETTERS) {
                return false;
            }
            letters[size] = letter;
            size++;
            return true;
        }

        /** FAULT; the LINES that THE TEXT tells ahead of it come into draft, with LABELS as at first. */
        int readInto(Lines draft) {
            draft.clear();
            if (size == 0 || letters[0] != 'Q') {
                return 0;
            }
            int part = NO_PART;
            int farthest = 0;
            for (int place = 1; place < size; place++) {
                if (part == NO_PART) {
                    if (!begin(draft, letters[place])) {
                        return place;
                    }
                    part = X;
                } else {
                    int[] line = draft.parts[draft.size];
                    int value = valueOf(line[KIND], part, letters[place]);
                    if (!Lines.fits(line[KIND], part, value, draft.size, MOST_LINES)) {
                        return place;
                    }
                    line[part] = value;
                    farthest = part == T ? Math.max(farthest, value) : farthest;
                    part = partBehind(line[KIND], part);
                    draft.size += part == NO_PART ? 1 : 0;
                }
            }
            return part == NO_PART && farthest <= draft.size ? NONE : size;
        }

        private static boolean begin(Lines draft, int letter) {
            int kind = KIND_LETTERS.indexOf((char) letter);
            if (kind < 0 || draft.size >= MOST_LINES) {
                return false;
            }
            Arrays.fill(draft.parts[draft.size], NONE);
            draft.parts[draft.size][KIND] = kind;
            return true;
        }

        private static int valueOf(int kind, int part, int letter) {
            if (part == T && letter == '.') {
                return FULL_STOP;
            }
            boolean isFigure = part == T || part == Y && kind == BECOMES;
            int value = letter - (isFigure ? '0' : 'a');
            return isBelow(value, FIGURES) ? value : NO_VALUE;
        }

        private static int partBehind(int kind, int part) {
            for (int behind = part + 1; behind < PARTS; behind++) {
                if (Lines.hasPart(kind, behind)) {
                    return behind;
                }
            }
            return NO_PART;
        }
    }

    /** THE ROW of ACTS: what each has changed, as it was. */
    private static final class Acts {
        /** An ACT: which LINE, or behind the LINES which input; then what was there. */
        private static final int WIDTH = 1 + PARTS;

        int size = 0;
        private final int[] row = new int[MOST_ACTS * WIDTH];

        void addTold(Lines lines, int line) {
            int place = placeForOne();
            row[place] = line;
            System.arraycopy(lines.parts[line], 0, row, place + 1, PARTS);
        }

        void addLabelled(Lines lines, int input) {
            int place = placeForOne();
            row[place] = MOST_LINES + input;
            row[place + 1] = lines.labels[input];
        }

        private int placeForOne() {
            if (size >= MOST_ACTS) {
                System.arraycopy(row, WIDTH, row, 0, (MOST_ACTS - 1) * WIDTH);
                size = MOST_ACTS - 1;
            }
            size++;
            return (size - 1) * WIDTH;
        }

        boolean takeBack(Lines lines) {
            if (size == 0) {
                return false;
            }
            size--;
            int place = size * WIDTH;
            int which = row[place];
            if (which < MOST_LINES) {
                System.arraycopy(row, place + 1, lines.parts[which], 0, PARTS);
            } else {
                lines.labels[which - MOST_LINES] = row[place + 1];
            }
            return true;
        }
    }

    /** What holds of LINES before any RUN: MEETINGS, CONTEXTS, LABELS, what is REACHED and what is WRONG. */
    private static final class Flow {
        int reached = 0;
        int wrongLines = 0;
        final int[] meetings = new int[MOST_LINES];
        final int[] contexts = new int[MOST_LINES];
        final int[][] labels = new int[MOST_LINES][VARIABLES];
        /** By LINE or THE END, itself with all to which rows of WAYS lead, and with all that lie on each such row. */
        private final int[] someRow = new int[MOST_LINES + 1];
        private final int[] eachRow = new int[MOST_LINES + 1];
        private final int[] leaving = new int[VARIABLES];

        boolean isReached(int line) {
            return (reached >> line & 1) == 1;
        }

        void read(Lines lines, int[] inputs) {
            readWays(lines);
            clearLabels(inputs);
            reached = lines.size > 0 ? 1 : 0;
            wrongLines = 0;
            // WAYS lead to greater numbers alone, so all that comes to a LINE is known when it is its turn
            for (int line = 0; line < lines.size; line++) {
                if (isReached(line)) {
                    contexts[line] = contextOf(lines, line);
                    leaveByNext(lines, line);
                    if (lines.parts[line][T] != NONE) {
                        leaveByTarget(lines, line);
                    }
                    if (isSpokenWrong(lines.parts[line], line)) {
                        wrongLines |= 1 << line;
                    }
                }
            }
        }

        private void readWays(Lines lines) {
            int end = lines.size;
            someRow[end] = 1 << end;
            eachRow[end] = 1 << end;
            for (int line = end - 1; line >= 0; line--) {
                int target = lines.targetOf(line);
                int onEach = eachRow[line + 1] & eachRow[target];
                meetings[line] = Integer.numberOfTrailingZeros(onEach);
                eachRow[line] = onEach | 1 << line;
                someRow[line] = someRow[line + 1] | someRow[target] | 1 << line;
            }
        }

        private void clearLabels(int[] inputs) {
            for (int line = 0; line < MOST_LINES; line++) {
                Arrays.fill(labels[line], 0);
            }
            System.arraycopy(inputs, 0, labels[0], 0, INPUTS);
        }

        private int contextOf(Lines lines, int line) {
            int context = 0;
            for (int i = 0; i < line; i++) {
                // all rows from i go through its MEETING, so what is less than that lies ahead of it
                if (isReached(i) && (someRow[i] >> line & 1) == 1 && line < meetings[i]) {
                    context |= lookedAt(lines.parts[i], i);
                }
            }
            return context;
        }

        /** LABEL of what a LINE that has a t looks at. */
        private int lookedAt(int[] parts, int line) {
            switch (parts[KIND]) {
                case DIVISION:
                    return labels[line][parts[Z]];
                case BRANCH:
                case THROW:
                    return labels[line][parts[X]];
                default:
                    return 0;
            }
        }

        private void leaveByNext(Lines lines, int line) {
            int[] parts = lines.parts[line];
            int[] here = labels[line];
            System.arraycopy(here, 0, leaving, 0, VARIABLES);
            switch (parts[KIND]) {
                case BECOMES:
                case FREE:
                    leaving[parts[X]] = contexts[line];
                    break;
                case SUM:
                case DIVISION:
                    leaving[parts[X]] = here[parts[Y]] | here[parts[Z]] | contexts[line];
                    break;
                default:
                    break;
            }
            comeTo(line + 1, lines.size);
        }

        private void leaveByTarget(Lines lines, int line) {
            int[] parts = lines.parts[line];
            System.arraycopy(labels[line], 0, leaving, 0, VARIABLES);
            if (parts[KIND] != BRANCH) {
                leaving[E] = lookedAt(parts, line) | contexts[line];
            }
            comeTo(lines.targetOf(line), lines.size);
        }

        private void comeTo(int line, int end) {
            if (line >= end) {
                return;
            }
            reached |= 1 << line;
            for (int variable = 0; variable < VARIABLES; variable++) {
                labels[line][variable] |= leaving[variable];
            }
        }

        private boolean isSpokenWrong(int[] parts, int line) {
            return parts[KIND] == SPEAK && (labels[line][parts[X]] | contexts[line]) != 0;
        }
    }

    /** A RUN: what is SPOKEN, and by which LINES. */
    private static final class Runner {
        int many = 0;
        boolean failed = false;
        final int[] values = new int[VARIABLES];
        final int[] said = new int[MOST_LINES];
        final int[] speakers = new int[MOST_LINES];

        void go(Lines lines, int a, int b, int c) {
            values[0] = a;
            values[1] = b;
            values[2] = c;
            values[3] = 0;
            values[E] = 0;
            many = 0;
            failed = false;
            int line = 0;
            for (int steps = 0; steps < MOST_LINES && line < lines.size; steps++) {
                line = step(lines, line);
            }
        }

        /** The LINE at which one goes on. */
        private int step(Lines lines, int line) {
            int[] parts = lines.parts[line];
            int x = parts[X];
            switch (parts[KIND]) {
                case BECOMES:
                    values[x] = parts[Y];
                    return line + 1;
                case SUM:
                    values[x] = (values[parts[Y]] + values[parts[Z]]) % 10;
                    return line + 1;
                case DIVISION:
                    int divisor = values[parts[Z]];
                    if (divisor == 0) {
                        beThrown(1, parts[T]);
                        return lines.targetOf(line);
                    }
                    values[x] = values[parts[Y]] / divisor;
                    return line + 1;
                case BRANCH:
                    return values[x] != 0 ? lines.targetOf(line) : line + 1;
                case THROW:
                    if (values[x] == 0) {
                        return line + 1;
                    }
                    beThrown(values[x], parts[T]);
                    return lines.targetOf(line);
                case SPEAK:
                    speak(line, values[x]);
                    return line + 1;
                default:
                    return line + 1;
            }
        }

        private void beThrown(int value, int t) {
            values[E] = value;
            failed = t == FULL_STOP;
        }

        private void speak(int line, int value) {
            if (many < MOST_LINES) {
                said[many] = value;
                speakers[many] = line;
                many++;
            }
        }

        int spoken(int i) {
            return isBelow(i, many) ? said[i] : NONE;
        }

        int sumOfSpoken() {
            int sum = 0;
            for (int i = 0; i < many; i++) {
                sum += said[i];
            }
            return sum;
        }

        /** The first number that is SPOKEN otherwise, also where one has none; NONE. */
        int firstUnlike(Runner other) {
            int longer = Math.max(many, other.many);
            for (int i = 0; i < longer; i++) {
                if (spoken(i) != other.spoken(i)) {
                    return i;
                }
            }
            return NONE;
        }
    }

    /** One who knows a and hears what is SPOKEN by each pair of b, c. */
    private static final class Listener {
        private static final int SILENT = -1;
        /** A prime well above the number of pairs, so that few rows meet at one place. */
        private static final int PLACES = 257;

        private final Runner runner = new Runner();
        /** By pair and LINE, what it speaks. */
        private final int[] voices = new int[PAIRS * MOST_LINES];
        /** The unlike rows, each at its place or the next free one; 0 is no row. */
        private final int[] found = new int[PLACES];

        void listen(Lines lines, int a) {
            Arrays.fill(voices, SILENT);
            for (int pair = 0; pair < PAIRS; pair++) {
                runner.go(lines, a, pair / FIGURES, pair % FIGURES);
                for (int i = 0; i < runner.many; i++) {
                    voices[pair * MOST_LINES + runner.speakers[i]] = runner.said[i];
                }
            }
        }

        /** What those LINES speak by a pair, as one number: a 1, so that its length counts, then the figures. */
        private int rowOf(int pair, int speakers) {
            int row = 1;
            for (int line = 0; line < MOST_LINES; line++) {
                int voice = voices[pair * MOST_LINES + line];
                if (voice != SILENT && (speakers >> line & 1) == 1) {
                    row = row * 10 + voice;
                }
            }
            return row;
        }

        /** WORLDS, if those LINES alone speak. */
        int unlikeRows(int speakers) {
            Arrays.fill(found, 0);
            int many = 0;
            for (int pair = 0; pair < PAIRS; pair++) {
                int row = rowOf(pair, speakers);
                int place = placeOf(row);
                if (found[place] == 0) {
                    found[place] = row;
                    many++;
                }
            }
            return many;
        }

        private int placeOf(int row) {
            int place = row % PLACES;
            for (int tries = 0; tries < PLACES && found[place] != 0 && found[place] != row; tries++) {
                place = (place + 1) % PLACES;
            }
            return place;
        }

        /** By how many pairs the same is SPOKEN as by this one. */
        int rowsLike(int pair) {
            int row = rowOf(pair, EVERY_LINE);
            int many = 0;
            for (int i = 0; i < PAIRS; i++) {
                if (rowOf(i, EVERY_LINE) == row) {
                    many++;
                }
            }
            return many;
        }
    }

    /** What is HEARD. */
    private static final class Heard {
        int size = 0;
        private final int[][] row = new int[MOST_HEARD][4];

        boolean add(int a, int i, int v, int was) {
            if (size >= MOST_HEARD) {
                return false;
            }
            row[size][0] = a;
            row[size][1] = i;
            row[size][2] = v;
            row[size][3] = was;
            size++;
            return true;
        }

        boolean isAllSo(Lines lines, Runner runner, int b, int c) {
            for (int k = 0; k < size; k++) {
                int[] told = row[k];
                runner.go(lines, told[0], b, c);
                boolean was = runner.spoken(told[1]) == told[2];
                if (was != (told[3] == 1)) {
                    return false;
                }
            }
            return true;
        }
    }

    /** Told doings, JUDGED on LABELS of its own, so that nothing is changed. */
    private static final class Judge {
        private static final long ROWS_OF_ONE = 10000;

        private final int[] labels = new int[INPUTS];
        private final Flow flow = new Flow();
        private final Listener listener = new Listener();

        /** How many rows n doings can be told as. */
        static long rowsOf(int n) {
            long rows = 1;
            for (int i = 0; i < n && i < MOST_DOINGS; i++) {
                rows *= ROWS_OF_ONE;
            }
            return rows;
        }

        int firstNotSo(Lines lines, int n, long row) {
            System.arraycopy(lines.labels, 0, labels, 0, INPUTS);
            flow.read(lines, labels);
            for (int place = 0; place < n; place++) {
                long unit = rowsOf(n - 1 - place);
                if (unit < 1 || !isSo(lines, (int) (row / unit % ROWS_OF_ONE))) {
                    return place;
                }
            }
            return NONE;
        }

        private boolean isSo(Lines lines, int doing) {
            int kind = doing / 1000;
            int first = doing / 100 % 10;
            int second = doing / 10 % 10;
            int last = doing % 10;
            if (second != 0 && kind != 2) {
                return false;
            }
            switch (kind) {
                case 1:
                    return isLabelled(lines, first, last);
                case 2:
                    return lines.has(first) && flow.isReached(first) && isBelow(second, VARIABLES)
                            && flow.labels[first][second] == last;
                case 3:
                    return lines.has(first) && flow.isReached(first) && flow.contexts[first] == last;
                case 4:
                    return lines.has(first) && flow.meetings[first] == last;
                case 5:
                    return last == 0 && (flow.wrongLines >> first & 1) == 1;
                case 6:
                    return first == 0 && last == 0 && flow.wrongLines == 0;
                case 7:
                    listener.listen(lines, first);
                    return listener.unlikeRows(EVERY_LINE) >= last;
                default:
                    return false;
            }
        }

        private boolean isLabelled(Lines lines, int input, int label) {
            if (!isBelow(input, INPUTS) || !isBelow(label, LABELS)) {
                return false;
            }
            labels[input] = label;
            flow.read(lines, labels);
            return true;
        }
    }
}
