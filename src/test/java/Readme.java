import java.io.IOException;
import java.lang.reflect.Method;
import java.lang.reflect.Modifier;
import java.nio.file.Files;
import java.nio.file.Path;
import java.util.ArrayList;
import java.util.List;
import java.util.TreeSet;
import java.util.regex.Matcher;
import java.util.regex.Pattern;
import java.util.stream.Collectors;
import java.util.stream.Stream;

/** README.md tells the lines, the methods, what they throw and the tests as they are. */
public final class Readme {
    private static final Pattern NAMED_CALL = Pattern.compile("`(\\w+)\\((\\w*)\\)`");
    private static final Pattern EXCEPTION = Pattern.compile("`(\\w+Exception)`");
    private static final Pattern TEST = Pattern.compile("`src/test/java/(\\w+)\\.java`");
    private static int wrong = 0;

    private static void due(String what, Object got, Object want) {
        if (!got.equals(want)) {
            wrong++;
            System.out.println("README.md: " + what + " is told as " + want + ", but is " + got);
        }
    }

    /** The rows of the table that has this heading, each cut into its columns. */
    private static List<String[]> table(List<String> page, String heading) {
        List<String[]> rows = new ArrayList<>();
        for (int k = page.indexOf(heading) + 2; k > 1 && k < page.size() && page.get(k).startsWith("|"); k++) {
            String row = page.get(k);
            rows.add(row.substring(2, row.length() - 1).split(" \\| ?", -1));
        }
        due("the table " + heading, rows.isEmpty(), false);
        return rows;
    }

    private static String plain(String column) {
        return column.replace("`", "").stripTrailing();
    }

    private static String told(RankTrain x, char answer) {
        if (answer == 'e') {
            return x.error() + " at " + x.errorAt();
        }
        StringBuilder shown = new StringBuilder();
        for (int k = 0; answer == 'n' && k < x.shown(); k++) {
            shown.append(x.shownAt(k));
        }
        return shown.toString();
    }

    private static void lines(List<String> page) {
        RankTrain x = new RankTrain();
        for (String[] row : table(page, "| line | `run` | what it came to |")) {
            String line = row[0].substring(1, row[0].length() - 1);
            for (char c : line.toCharArray()) {
                x.type(c);
            }
            char answer = x.run();
            due("run of " + line, "" + answer, plain(row[1]));
            due("what " + line + " came to", told(x, answer), plain(row[2]));
        }
    }

    private static List<String> all(Pattern pattern, String text) {
        List<String> found = new ArrayList<>();
        for (Matcher m = pattern.matcher(text); m.find(); ) {
            found.add(m.group(1));
        }
        return found;
    }

    private static void methods(List<String> page) {
        List<String> rows = new ArrayList<>();
        for (String[] row : table(page, "| method | what it does and answers | what it throws |")) {
            List<String> names = all(NAMED_CALL, row[0]);
            rows.add(names.isEmpty() ? row[0] : names.get(0) + " " + all(EXCEPTION, row[2]));
        }
        List<String> methods = new ArrayList<>();
        for (Method method : RankTrain.class.getDeclaredMethods()) {
            if (Modifier.isPublic(method.getModifiers())) {
                String thrown = Stream.of(method.getExceptionTypes()).map(Class::getSimpleName).collect(Collectors.joining(", "));
                methods.add(method.getName() + " [" + thrown + "]");
            }
        }
        due("what the methods throw", new TreeSet<>(methods), new TreeSet<>(rows));
        due("the number of methods", methods.size(), rows.size());
    }

    private static void tests(List<String> page) throws IOException {
        TreeSet<String> told = new TreeSet<>();
        for (String[] row : table(page, "| test | what it looks at |")) {
            told.addAll(all(TEST, row[0]));
        }
        try (Stream<Path> files = Files.list(Path.of("src/test/java"))) {
            TreeSet<String> tests = files.map(file -> file.getFileName().toString().replace(".java", ""))
                .collect(Collectors.toCollection(TreeSet::new));
            due("the list of the tests", tests, told);
        }
    }

    /** The example of a new object, done here as it stands there. */
    private static void example(String page) {
        RankTrain session = new RankTrain();
        for (char character : "+/1 2 3".toCharArray()) {
            session.type(character);
        }
        due("the example's line", page.contains("\"+/1 2 3\".toCharArray()"), true);
        due("the example's answer", session.run(), 'n');
        due("the example's kind", session.kind(), 'i');
        due("the example's rank", session.rank(), 0);
        due("the example's cell", session.cell(0), 6L);
        due("the example's cost", session.cost(), 6L);
    }

    public static void main(String[] args) throws IOException {
        List<String> page = Files.readAllLines(Path.of("README.md"));
        lines(page);
        methods(page);
        tests(page);
        example(String.join("\n", page));
        System.out.println("README.md: " + wrong + " wrong");
        if (wrong > 0) {
            System.exit(1);
        }
    }
}
