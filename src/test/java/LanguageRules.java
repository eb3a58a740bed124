import java.io.IOException;
import java.nio.file.Files;
import java.nio.file.Path;
import java.util.ArrayList;
import java.util.List;
import java.util.regex.Matcher;
import java.util.regex.Pattern;

/** Looks for what ../shared/LANGUAGE.md forbids in the program, as far as its text tells. */
public final class LanguageRules {
    private static final String[] FORBIDDEN = {
        "->", "::", "\\bDouble\\b", "\\bFloat\\b", "\\bCharacter\\b", "\\bBoolean\\b", "\\bObject\\b", "\\bObjects\\b",
        "\\bByte\\b", "\\bShort\\b", "\\bHashMap\\b", "\\bMap\\b", "\\bSet\\b", "\\bCollections\\b", "\\bfinally\\b",
        "\\bsynchronized\\b", "\\bassert\\b", "\\bvar\\b", "\\bprotected\\b", "\\bhashCode\\b", "\\btoString\\b",
        "\\bgetMessage\\b", "\\bRuntimeException\\b", "\\bException\\b", "\\bThrowable\\b", "\\bError\\b", "Exact\\b",
        "ArrayIndexOutOfBounds", "NullPointer", "ClassCast", "NegativeArraySize", "ArrayStore", "String\\.", "format\\(",
        "System\\.(?!arraycopy)", "Arrays\\.(?!fill|copyOf|copyOfRange)", "Math\\.(?!max|min|abs|floorMod|floorDiv)",
        "MAX_VALUE", "MIN_VALUE", "\\bthrow (?!new )", "\\bextends\\b", "static \\{", "\\bimplements\\b", "\\bnative\\b"};
    private static final String[] IMPORTS = {"java.util.ArrayList", "java.util.Arrays", "java.util.NoSuchElementException"};
    private static final String[] FACE = {
        "public final class RankTrain {", "public RankTrain() {",
        "public int type(char character) throws IllegalArgumentException, IllegalStateException {", "public char run() {",
        "public int retype() throws NoSuchElementException, UnsupportedOperationException {",
        "public boolean setSpecial(boolean isOn) {", "public char error() throws NoSuchElementException {",
        "public int errorAt() throws NoSuchElementException {", "public char kind() throws NoSuchElementException {",
        "public int rank() throws NoSuchElementException {",
        "public int length(int axis) throws NoSuchElementException, IndexOutOfBoundsException {",
        "public int size() throws NoSuchElementException {",
        "public long cell(int index) throws NoSuchElementException, IndexOutOfBoundsException {",
        "public int shown() throws NoSuchElementException {",
        "public char shownAt(int index) throws NoSuchElementException, IndexOutOfBoundsException {", "public long cost() {",
        "public int applications() {", "public int specials() {", "public char named(int name) throws IndexOutOfBoundsException {",
        "public int words() {", "public char wordAt(int word) throws IndexOutOfBoundsException {", "public int nouns() {",
        "public int answeredBefore() throws NoSuchElementException {", "public double meanCost() throws ArithmeticException {",
        "public float errorShare() throws ArithmeticException {"};
    private static int wrong = 0;

    private static void need(boolean holds, String what) {
        if (!holds) {
            wrong++;
            System.out.println(what);
        }
    }

    private static String withoutTexts(String line) {
        return line.replaceAll("'\\\\?.'", "' '").replaceAll("\"(\\\\.|[^\"\\\\])*\"", "\"\"");
    }

    public static void main(String[] args) throws IOException {
        List<String> lines = Files.readAllLines(Path.of("src/main/java/RankTrain.java"));
        List<String> open = new ArrayList<>();
        List<String> publicNames = new ArrayList<>();
        int classes = 0;
        int methodFrom = -1;
        Pattern method = Pattern.compile("^        (?:private )?(?:static )?(?:final )?[\\w<>\\[\\]]+ (\\w+)\\((.*)\\).*\\{$|^    (?:public|private) .*?(\\w+)\\((.*)\\).*\\{$");
        for (int k = 0; k < lines.size(); k++) {
            String at = "line " + (k + 1) + ": ";
            String raw = lines.get(k);
            String line = withoutTexts(raw);
            need(raw.chars().allMatch(c -> c >= 32 && c < 127), at + "a sign that is no plain one");
            if (raw.trim().startsWith("/**") || raw.trim().startsWith("//") || raw.trim().startsWith("*")) {
                continue;
            }
            for (String forbidden : FORBIDDEN) {
                need(!Pattern.compile(forbidden).matcher(line).find(), at + forbidden + " in " + raw.trim());
            }
            if (line.startsWith("import ")) {
                boolean isKnown = false;
                for (String known : IMPORTS) {
                    isKnown |= line.equals("import " + known + ";");
                }
                need(isKnown, at + raw);
            }
            if (line.contains("public ")) {
                open.add(raw.trim());
            }
            classes += line.contains(" class ") ? 1 : 0;
            need(!line.matches(".*\\bstatic\\b(?!.*\\bfinal\\b).*;"), at + "a static field that is not final");
            Matcher m = method.matcher(line);
            if (m.matches()) {
                methodFrom = k;
                String name = m.group(1) != null ? m.group(1) : m.group(3);
                String parameters = m.group(1) != null ? m.group(2) : m.group(4);
                need(parameters.split(",").length <= 7, at + "more than seven parameters");
                if (line.contains("public ")) {
                    publicNames.add(name);
                } else {
                    need(!publicNames.contains(name), at + name + " bears a public name");
                }
            }
            boolean isEnd = raw.equals("        }") || raw.equals("    }");
            if (isEnd && methodFrom >= 0) {
                need(k - methodFrom <= 62, at + "a method of " + (k - methodFrom + 1) + " lines");
                methodFrom = -1;
            }
        }
        need(open.equals(List.of(FACE)), "the face is not the document's: " + open);
        need(classes <= 12, classes + " classes");
        System.out.println(lines.size() + " lines, " + classes + " classes, " + wrong + " breaches");
        if (wrong > 0) {
            System.exit(1);
        }
    }
}
