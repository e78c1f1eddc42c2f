import java.io.IOException;
import java.nio.file.Files;
import java.nio.file.Path;
import java.util.Map;
import java.util.Set;
import java.util.TreeMap;
import java.util.TreeSet;
import java.util.regex.Matcher;
import java.util.regex.Pattern;

/** What can be seen of the rules of LANGUAGE.md in the letters of the program. Runs in the project's folder. */
public final class LanguageTest {
    private static final String[] FORBIDDEN = {"throw", "try", "catch", "finally", "synchronized", "assert", "protected",
        "instanceof", "Object", "System.out", "Exact\\b", "Random", "Thread", "volatile", "native", "double", "float"};
    private static final Pattern METHOD =
            Pattern.compile("^( +)(?:(?:public|private|static|final) )*[\\w\\[\\]]+ (\\w+)\\(([^()]*)\\) \\{$");
    private static final Pattern CALL = Pattern.compile("\\b(\\w+)\\(");
    /** Rule 4, as far as the program uses it; a call of another class must be one of the program's own. */
    private static final Set<String> LIBRARY = Set.of("Arrays.fill", "System.arraycopy", "Integer.bitCount",
            "Integer.numberOfTrailingZeros", "Math.abs", "Math.max");
    private static final int MOST_LINES = 60, MOST_PARAMETERS = 7, MOST_DEPTH = 8;

    /** By name; methods of one name in several classes count as one. */
    private static final Map<String, Set<String>> CALLS = new TreeMap<>();

    private LanguageTest() {
    }

    public static void main(String[] args) throws IOException {
        String source = Files.readString(Path.of("src/main/java/QuietLines.java"));
        String code = source.replaceAll("(?s)/\\*.*?\\*/", "").replaceAll("//.*", "");
        for (String word : FORBIDDEN) {
            Due.holds("the program has no " + word, !Pattern.compile("\\b" + word + "\\b").matcher(code).find());
        }
        Due.holds("no lambda, no method reference", !code.contains("->") && !code.contains("::"));
        Due.holds("no static block", !Pattern.compile("static\\s*\\{").matcher(code).find());
        Due.holds("no package line", !code.contains("package "));
        Due.holds("letters of 7 bits", source.chars().allMatch(letter -> letter < 127));
        Matcher imports = Pattern.compile("import ([\\w.*]+);").matcher(code);
        while (imports.find()) {
            Due.holds("import " + imports.group(1), imports.group(1).equals("java.util.Arrays"));
        }
        Matcher classes = Pattern.compile("\\bclass \\w+").matcher(code);
        int many = 0;
        while (classes.find()) {
            many++;
        }
        Due.holds("some twelve classes at most", many <= 12);
        methods(source.split("\n"));
        library(code);
        Due.end();
    }

    private static void library(String code) {
        Matcher call = Pattern.compile("\\b([A-Z][a-z]\\w*)\\.(\\w+)\\(").matcher(code);
        int many = 0;
        while (call.find()) {
            boolean isOwn = code.contains("class " + call.group(1) + " ");
            Due.holds("rule 4: " + call.group(), isOwn || LIBRARY.contains(call.group(1) + "." + call.group(2)));
            many++;
        }
        Due.holds("calls of the library are found", many > 10);
        Matcher made = Pattern.compile("\\bnew (\\w+)(\\W)").matcher(code);
        while (made.find()) {
            boolean isOwn = made.group(2).equals("(") && code.contains("class " + made.group(1) + " ");
            boolean isRow = made.group(2).equals("[") && Set.of("int", "boolean").contains(made.group(1));
            Due.holds("rule 3: " + made.group(), isOwn || isRow);
        }
        Due.holds("rule 10: texts are not joined by +", !Pattern.compile("\"\\s*\\+|\\+\\s*\"").matcher(code).find());
    }

    private static void methods(String[] lines) {
        for (int i = 0; i < lines.length; i++) {
            Due.holds("line " + (i + 1) + " is 120 wide at most", lines[i].length() <= 120);
            Matcher method = METHOD.matcher(lines[i]);
            if (!method.matches()) {
                continue;
            }
            String name = method.group(2);
            Set<String> called = CALLS.computeIfAbsent(name, none -> new TreeSet<>());
            Due.holds(name + " has few parameters", method.group(3).split(",").length <= MOST_PARAMETERS);
            int end = i + 1;
            while (end < lines.length && !lines[end].equals(method.group(1) + "}")) {
                Matcher call = CALL.matcher(lines[end].replaceAll("//.*", ""));
                while (call.find()) {
                    called.add(call.group(1));
                }
                end++;
            }
            Due.holds(name + " is short", end - i <= MOST_LINES);
        }
        Due.holds("methods are found", CALLS.size() > 40);
        for (String name : CALLS.keySet()) {
            Due.holds(name + " goes " + depth(name, 0) + " deep", depth(name, 0) <= MOST_DEPTH);
        }
    }

    /** How many calls stand open at once; the bound ends it where methods call one another. */
    private static int depth(String name, int open) {
        int most = 0;
        for (String called : CALLS.getOrDefault(name, Set.of())) {
            if (open <= MOST_DEPTH) {
                most = Math.max(most, depth(called, open + 1));
            }
        }
        return 1 + most;
    }
}
