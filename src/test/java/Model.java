import java.math.BigInteger;
import java.util.ArrayList;
import java.util.Arrays;
import java.util.HashSet;
import java.util.List;
import java.util.Set;
import java.util.TreeSet;
import java.util.regex.Matcher;
import java.util.regex.Pattern;

/**
 * The document's words, done as slowly and as literally as can be: rows of WAYS are all listed, orders are all listed,
 * pairs are compared with all pairs. The class is compared with it on calls by chance.
 */
final class Model {
    static final int UNKNOWN = -1, OUTSIDE = -2, STATE = -3, FULL = -4, NONE = -9;
    private static final Pattern PROGRAM = Pattern.compile("Q" + linesFrom(0));

    /** A LINE: its letters, as in THE TEXT. */
    private record State(List<String> lines, List<Integer> labels) {
        State copy() {
            return new State(new ArrayList<>(lines), new ArrayList<>(labels));
        }
    }

    private record Outcome(List<Integer> spoken, boolean failed, int e) {
    }

    private String text = "";
    private State now = new State(new ArrayList<>(), new ArrayList<>(List.of(0, 1, 2)));
    private List<State> before = new ArrayList<>();
    private State[] kept = new State[2];
    private final List<int[]> heard = new ArrayList<>();
    private long seed = 0;

    private static String linesFrom(int number) {
        if (number == 9) {
            return "";
        }
        String t = "[" + (number + 1) + "-9.]";
        String one = "(?:K[a-e][0-9]|S[a-e]{3}|V[a-e]{3}" + t + "|[BT][a-e]" + t + "|[OD][a-e])";
        return "(?:" + one + linesFrom(number + 1) + ")?";
    }

    // ---- the program

    int write(int letter) {
        if (letter < 0 || letter > 255) return OUTSIDE;
        if (text.length() == 48) return FULL;
        text += (char) letter;
        return text.length();
    }

    int wipe() {
        int was = text.length();
        text = "";
        return was;
    }

    int fault() {
        for (int length = 1; length <= text.length(); length++) {
            Matcher m = PROGRAM.matcher(text.substring(0, length));
            if (!m.matches() && !m.hitEnd()) return length - 1;
        }
        if (!PROGRAM.matcher(text).matches()) return text.length();
        List<String> lines = split(text);
        for (String line : lines) {
            if (tOf(line) > lines.size()) return text.length();
        }
        return NONE;
    }

    private static List<String> split(String program) {
        List<String> lines = new ArrayList<>();
        String one = "";
        for (char letter : program.substring(1).toCharArray()) {
            if (Character.isUpperCase(letter) && !one.isEmpty()) {
                lines.add(one);
                one = "";
            }
            one += letter;
        }
        if (!one.isEmpty()) lines.add(one);
        return lines;
    }

    int program() {
        if (fault() != NONE) return STATE;
        now = new State(split(text), new ArrayList<>(List.of(0, 1, 2)));
        before.clear();
        kept = new State[2];
        return size();
    }

    private int size() {
        return now.lines.size();
    }

    private static int kindOf(String line) {
        return "KSVBTOD".indexOf(line.charAt(0));
    }

    private static int xOf(String line) {
        return line.charAt(1) - 'a';
    }

    private static int yOf(String line) {
        if (line.charAt(0) == 'K') return line.charAt(2) - '0';
        return "SV".indexOf(line.charAt(0)) >= 0 ? line.charAt(2) - 'a' : NONE;
    }

    private static int zOf(String line) {
        return "SV".indexOf(line.charAt(0)) >= 0 ? line.charAt(3) - 'a' : NONE;
    }

    private static int tOf(String line) {
        if ("VBT".indexOf(line.charAt(0)) < 0) return NONE;
        char t = line.charAt(line.length() - 1);
        return t == '.' ? -1 : t - '0';
    }

    private boolean isLine(int line) {
        return line >= 0 && line < size();
    }

    int line(int line, int what) {
        if (!isLine(line)) return UNKNOWN;
        String one = now.lines.get(line);
        return switch (what) {
            case 0 -> kindOf(one);
            case 1 -> xOf(one);
            case 2 -> yOf(one);
            case 3 -> zOf(one);
            case 4 -> tOf(one);
            default -> OUTSIDE;
        };
    }

    // ---- acts

    private void act() {
        before.add(now.copy());
        if (before.size() > 14) before.remove(0);
    }

    int tell(int line, int kind, int x, int y, int z, int t) {
        if (!isLine(line)) return UNKNOWN;
        if (kind < 0 || kind > 6 || x < 0 || x > 4) return OUTSIDE;
        int mostY = kind == 0 ? 9 : kind == 1 || kind == 2 ? 4 : 0;
        int mostZ = kind == 1 || kind == 2 ? 4 : 0;
        if (y < 0 || y > mostY || z < 0 || z > mostZ) return OUTSIDE;
        if (kind >= 2 && kind <= 4) {
            if (t != -1 && (t <= line || t > size())) return OUTSIDE;
        } else if (t != 0) {
            return OUTSIDE;
        }
        String told = "" + "KSVBTOD".charAt(kind) + (char) ('a' + x);
        if (kind == 0) told += y;
        if (kind == 1 || kind == 2) told += "" + (char) ('a' + y) + (char) ('a' + z);
        if (kind >= 2 && kind <= 4) told += t == -1 ? "." : "" + t;
        act();
        return kindOf(now.lines.set(line, told));
    }

    int relabel(int input, int label) {
        if (input < 0 || input > 2) return UNKNOWN;
        if (label < 0 || label > 3) return OUTSIDE;
        act();
        return now.labels.set(input, label);
    }

    int undo() {
        if (before.isEmpty()) return STATE;
        now = before.remove(before.size() - 1);
        return before.size();
    }

    // ---- labels

    private Set<Integer> ways(int line) {
        Set<Integer> to = new TreeSet<>();
        to.add(line + 1);
        int t = tOf(now.lines.get(line));
        if (t != NONE) to.add(t == -1 ? size() : t);
        return to;
    }

    private List<List<Integer>> rowsToTheEnd(int from) {
        if (from == size()) return List.of(List.of(from));
        List<List<Integer>> rows = new ArrayList<>();
        for (int to : ways(from)) {
            for (List<Integer> behind : rowsToTheEnd(to)) {
                List<Integer> row = new ArrayList<>(List.of(from));
                row.addAll(behind);
                rows.add(row);
            }
        }
        return rows;
    }

    private Set<Integer> reached() {
        Set<Integer> all = new TreeSet<>();
        if (size() > 0) {
            for (List<Integer> row : rowsToTheEnd(0)) all.addAll(row);
        }
        all.remove(size());
        return all;
    }

    private int meeting(int line) {
        Set<Integer> common = null;
        for (List<Integer> row : rowsToTheEnd(line)) {
            Set<Integer> on = new TreeSet<>(row.subList(1, row.size()));
            if (common == null) common = on;
            else common.retainAll(on);
        }
        return new TreeSet<>(common).first();
    }

    /** LABELS at each LINE, worked out anew for all LINES until nothing changes any more. */
    private int[][] flow(List<Integer> inputs) {
        int[][] at = new int[size()][5];
        int[] context = new int[size()];
        Set<Integer> reached = reached();
        String seen = "";
        while (!seen.equals(Arrays.deepToString(at))) {
            seen = Arrays.deepToString(at);
            for (int v = 0; v < 3 && size() > 0; v++) at[0][v] = inputs.get(v);
            for (int i : reached) {
                context[i] = contextBy(at, i, reached);
                for (int to : ways(i)) {
                    if (to == size()) continue;
                    String line = now.lines.get(i);
                    int t = tOf(line);
                    if (to == i + 1) join(at[to], leftByNext(line, at[i], context[i]));
                    if (t == to) join(at[to], leftByT(line, at[i], context[i]));
                }
            }
        }
        return at;
    }

    private static void join(int[] to, int[] from) {
        for (int v = 0; v < 5; v++) to[v] |= from[v];
    }

    private static int[] leftByNext(String line, int[] at, int context) {
        int[] left = at.clone();
        int x = xOf(line);
        switch (line.charAt(0)) {
            case 'K', 'D' -> left[x] = context;
            case 'S', 'V' -> left[x] = at[yOf(line)] | at[zOf(line)] | context;
            default -> { }
        }
        return left;
    }

    private static int[] leftByT(String line, int[] at, int context) {
        int[] left = at.clone();
        if (line.charAt(0) == 'V') left[4] = at[zOf(line)] | context;
        if (line.charAt(0) == 'T') left[4] = at[xOf(line)] | context;
        return left;
    }

    private int contextBy(int[][] at, int line, Set<Integer> reached) {
        int context = 0;
        for (int i : reached) {
            int t = tOf(now.lines.get(i));
            if (t == NONE) continue;
            String one = now.lines.get(i);
            int looked = at[i][one.charAt(0) == 'V' ? zOf(one) : xOf(one)];
            int meeting = meeting(i);
            for (List<Integer> row : rowsToTheEnd(i)) {
                int place = row.lastIndexOf(line);
                if (place > 0 && place < row.indexOf(meeting)) context |= looked;
            }
        }
        return context;
    }

    private int contextOf(int line, List<Integer> inputs) {
        return contextBy(flow(inputs), line, reached());
    }

    private int wrongBy(List<Integer> inputs) {
        int bits = 0;
        int[][] at = flow(inputs);
        for (int i : reached()) {
            String line = now.lines.get(i);
            if (line.charAt(0) == 'O' && (at[i][xOf(line)] | contextBy(at, i, reached())) != 0) bits |= 1 << i;
        }
        return bits;
    }

    int label(int line, int variable) {
        if (!isLine(line) || variable < 0 || variable > 4) return UNKNOWN;
        return reached().contains(line) ? flow(now.labels)[line][variable] : NONE;
    }

    int context(int line, int what) {
        if (!isLine(line)) return UNKNOWN;
        if (what == 1) return meeting(line);
        if (what != 0) return OUTSIDE;
        return reached().contains(line) ? contextOf(line, now.labels) : NONE;
    }

    int wrong() {
        return wrongBy(now.labels);
    }

    // ---- runs

    private Outcome go(int a, int b, int c, Set<Integer> silent) {
        int[] v = {a, b, c, 0, 0};
        List<Integer> spoken = new ArrayList<>();
        int at = 0;
        while (at < size()) {
            String line = now.lines.get(at);
            int x = xOf(line);
            int t = tOf(line);
            int next = at + 1;
            int thrown = 0;
            switch (line.charAt(0)) {
                case 'K' -> v[x] = yOf(line);
                case 'S' -> {
                    int sum = v[yOf(line)] + v[zOf(line)];
                    v[x] = sum >= 10 ? sum - 10 : sum;
                }
                case 'V' -> {
                    if (v[zOf(line)] == 0) thrown = 1;
                    else v[x] = v[yOf(line)] / v[zOf(line)];
                }
                case 'B' -> {
                    if (v[x] != 0) next = t == -1 ? size() : t;
                }
                case 'T' -> thrown = v[x];
                case 'O' -> {
                    if (!silent.contains(at)) spoken.add(v[x]);
                }
                default -> { }
            }
            if (thrown != 0) {
                v[4] = thrown;
                if (t == -1) return new Outcome(spoken, true, v[4]);
                next = t;
            }
            at = next;
        }
        return new Outcome(spoken, false, v[4]);
    }

    private Outcome go(int a, int b, int c) {
        return go(a, b, c, Set.of());
    }

    private static boolean figures(int... all) {
        return Arrays.stream(all).allMatch(one -> one >= 0 && one <= 9);
    }

    int run(int a, int b, int c, int i) {
        if (!figures(a, b, c)) return OUTSIDE;
        List<Integer> spoken = go(a, b, c).spoken;
        return i >= 0 && i < spoken.size() ? spoken.get(i) : NONE;
    }

    int ends(int a, int b, int c, int what) {
        if (!figures(a, b, c) || what < 0 || what > 2) return OUTSIDE;
        Outcome end = go(a, b, c);
        return what == 0 ? end.spoken.size() : what == 1 ? (end.failed ? 1 : 0) : end.e;
    }

    int leak(int what) {
        if (what < 0 || what > 3) return OUTSIDE;
        for (int a = 0; a < 10; a++) {
            List<List<Integer>> rows = new ArrayList<>();
            for (int pair = 0; pair < 100; pair++) rows.add(go(a, pair / 10, pair % 10).spoken);
            for (int one = 0; one < 100; one++) {
                for (int other = one + 1; other < 100; other++) {
                    if (rows.get(one).equals(rows.get(other))) continue;
                    if (what < 3) return what == 0 ? a : what == 1 ? one : other;
                    for (int i = 0; ; i++) {
                        int here = i < rows.get(one).size() ? rows.get(one).get(i) : NONE;
                        int there = i < rows.get(other).size() ? rows.get(other).get(i) : NONE;
                        if (here != there) return i;
                    }
                }
            }
        }
        return NONE;
    }

    private int worldsWithout(int a, Set<Integer> silent) {
        Set<List<Integer>> rows = new HashSet<>();
        for (int pair = 0; pair < 100; pair++) rows.add(go(a, pair / 10, pair % 10, silent).spoken);
        return rows.size();
    }

    int worlds(int a) {
        return figures(a) ? worldsWithout(a, Set.of()) : OUTSIDE;
    }

    int alike(int a, int b, int c) {
        if (!figures(a, b, c)) return OUTSIDE;
        int many = 0;
        for (int pair = 0; pair < 100; pair++) {
            if (go(a, pair / 10, pair % 10).spoken.equals(go(a, b, c).spoken)) many++;
        }
        return many;
    }

    int judge(int n, long row) {
        if (n < 1 || n > 4 || row < 0) return OUTSIDE;
        String figures = Long.toString(row);
        if (figures.length() > 4 * n) return OUTSIDE;
        figures = "0".repeat(4 * n - figures.length()) + figures;
        List<Integer> inputs = new ArrayList<>(now.labels);
        for (int i = 0; i < n; i++) {
            int[] f = figures.substring(4 * i, 4 * i + 4).chars().map(one -> one - '0').toArray();
            boolean so = switch (f[0]) {
                case 1 -> f[1] <= 2 && f[2] == 0 && f[3] <= 3 && inputs.set(f[1], f[3]) >= 0;
                case 2 -> reached().contains(f[1]) && f[2] <= 4 && flow(inputs)[f[1]][f[2]] == f[3];
                case 3 -> reached().contains(f[1]) && f[2] == 0 && contextOf(f[1], inputs) == f[3];
                case 4 -> isLine(f[1]) && f[2] == 0 && meeting(f[1]) == f[3];
                case 5 -> isLine(f[1]) && f[2] == 0 && f[3] == 0 && (wrongBy(inputs) & 1 << f[1]) != 0;
                case 6 -> f[1] + f[2] + f[3] == 0 && wrongBy(inputs) == 0;
                case 7 -> f[2] == 0 && worlds(f[1]) >= f[3];
                default -> false;
            };
            if (!so) return i;
        }
        return NONE;
    }

    // ---- heard

    int hear(int a, int i, int v, int was) {
        if (!figures(a, v) || i < 0 || i > 8 || was < 0 || was > 1) return OUTSIDE;
        if (heard.size() == 6) return FULL;
        heard.add(new int[] {a, i, v, was});
        return heard.size();
    }

    int unhear() {
        int was = heard.size();
        heard.clear();
        return was;
    }

    int secrets(int what) {
        if (what < 0 || what > 1) return OUTSIDE;
        List<Integer> pairs = new ArrayList<>();
        for (int pair = 0; pair < 100; pair++) {
            boolean so = true;
            for (int[] h : heard) so &= (run(h[0], pair / 10, pair % 10, h[1]) == h[2]) == (h[3] == 1);
            if (so) pairs.add(pair);
        }
        return what == 0 ? pairs.size() : pairs.isEmpty() ? NONE : pairs.get(0);
    }

    // ---- shares, chances

    private static int told(BigInteger above, BigInteger below, boolean upper) {
        BigInteger g = above.gcd(below);
        return (upper ? above : below).divide(g).intValueExact();
    }

    private List<Integer> speakers() {
        List<Integer> all = new ArrayList<>();
        for (int i = 0; i < size(); i++) if (now.lines.get(i).charAt(0) == 'O') all.add(i);
        return all;
    }

    private static void orders(List<Integer> left, List<Integer> sofar, List<List<Integer>> all) {
        if (left.isEmpty()) all.add(new ArrayList<>(sofar));
        for (int one : left) {
            List<Integer> rest = new ArrayList<>(left);
            rest.remove(Integer.valueOf(one));
            sofar.add(one);
            orders(rest, sofar, all);
            sofar.remove(sofar.size() - 1);
        }
    }

    int share(int line, int a, boolean upper) {
        if (!isLine(line)) return UNKNOWN;
        if (!figures(a)) return OUTSIDE;
        if (now.lines.get(line).charAt(0) != 'O') return STATE;
        if (speakers().size() > 5) return FULL;
        List<List<Integer>> orders = new ArrayList<>();
        orders(speakers(), new ArrayList<>(), orders);
        int[] worlds = new int[512];
        int gain = 0;
        for (List<Integer> order : orders) {
            int place = order.indexOf(line);
            gain += remembered(worlds, a, order.subList(place + 1, order.size()));
            gain -= remembered(worlds, a, order.subList(place, order.size()));
        }
        return told(BigInteger.valueOf(gain), BigInteger.valueOf(orders.size()), upper);
    }

    private int remembered(int[] worlds, int a, List<Integer> silent) {
        int bits = 0;
        for (int one : silent) bits |= 1 << one;
        if (worlds[bits] == 0) worlds[bits] = worldsWithout(a, new HashSet<>(silent));
        return worlds[bits];
    }

    int muted(int x, boolean upper) {
        if (x < 0 || x > 10) return OUTSIDE;
        int wrong = wrong();
        List<Integer> all = speakers();
        BigInteger above = BigInteger.ZERO;
        for (int mute = 0; mute < 1 << all.size(); mute++) {
            BigInteger chance = BigInteger.ONE;
            boolean left = false;
            for (int i = 0; i < all.size(); i++) {
                boolean isMute = (mute >> i & 1) == 1;
                chance = chance.multiply(BigInteger.valueOf(isMute ? x : 10 - x));
                left |= !isMute && (wrong >> all.get(i) & 1) == 1;
            }
            if (!left) above = above.add(chance);
        }
        return told(above, BigInteger.TEN.pow(all.size()), upper);
    }

    long seed(long v) {
        long was = seed;
        seed = v;
        return was;
    }

    int drawn(int m) {
        if (m < 1 || m > 20) return OUTSIDE;
        int sum = 0;
        BigInteger two64 = BigInteger.ONE.shiftLeft(64);
        for (int i = 0; i < m; i++) {
            BigInteger x = new BigInteger(Long.toUnsignedString(seed))
                    .multiply(new BigInteger("6364136223846793005")).add(new BigInteger("1442695040888963407")).mod(two64);
            seed = x.longValue();
            long up = x.shiftRight(33).longValueExact();
            Outcome end = go((int) (up % 10), (int) (up / 16 % 10), (int) (up / 256 % 10));
            sum += end.spoken.size() + (end.failed ? 100 : 0);
            for (int one : end.spoken) sum += one;
        }
        return sum;
    }

    // ---- slots

    int keep(int slot) {
        if (slot < 0 || slot > 1) return UNKNOWN;
        kept[slot] = now.copy();
        return size();
    }

    int again(int slot) {
        if (slot < 0 || slot > 1) return UNKNOWN;
        if (kept[slot] == null) return STATE;
        now = kept[slot].copy();
        before = new ArrayList<>();
        return size();
    }

    int count(int what) {
        int bits = 0;
        for (int i : reached()) bits |= 1 << i;
        return switch (what) {
            case 0 -> text.length();
            case 1 -> size();
            case 2 -> bits;
            case 3 -> speakers().size();
            case 4 -> (int) reached().stream().filter(i -> now.lines.get(i).charAt(0) == 'D').count();
            case 5 -> now.labels.get(0) + 4 * now.labels.get(1) + 16 * now.labels.get(2);
            case 6 -> wrong() == 0 ? 1 : 0;
            case 7 -> before.size();
            case 8 -> heard.size();
            default -> OUTSIDE;
        };
    }
}
