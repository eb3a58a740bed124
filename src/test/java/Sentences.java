import java.io.IOException;
import java.nio.file.Files;
import java.nio.file.Path;
import java.util.ArrayList;
import java.util.List;

/**
 * Runs the cases of src/test/sentences.txt: sentences of the document that name a boundary case, and below each one
 * lines to run on a new object with what is due of the last one. How a case is written is told at the top of that file.
 */
public final class Sentences {
    private static final int MOST_CALLS = 512;
    private static int wrong = 0;
    private static int calls;

    private static void call(int more) {
        calls += more;
    }

    /** Puts the text as often as told in place of each `text*times`. */
    private static String repeated(String text) {
        StringBuilder b = new StringBuilder();
        String[] parts = text.split("`", -1);
        for (int k = 0; k < parts.length; k++) {
            int star = parts[k].lastIndexOf('*');
            b.append(k % 2 == 0 ? parts[k] : parts[k].substring(0, star).repeat(Integer.parseInt(parts[k].substring(star + 1))));
        }
        return b.toString();
    }

    private static char run(RankTrain x, String line) {
        if (line.equals("!off") || line.equals("!on")) {
            x.setSpecial(line.equals("!on"));
            call(1);
            return ' ';
        }
        if (line.equals("!retype")) {
            x.retype();
            call(2);
            return x.run();
        }
        for (int k = 0; k < line.length(); k++) {
            x.type(line.charAt(k));
        }
        call(line.length() + 1);
        return x.run();
    }

    private static String shown(RankTrain x) {
        int length = x.shown();
        StringBuilder b = new StringBuilder();
        for (int k = 0; k < length; k++) {
            b.append(x.shownAt(k));
        }
        call(length + 1);
        return b.toString();
    }

    /** What is shown tells the kind, too. */
    private static String withItsKind(String shown, char kind) {
        char want = shown.indexOf('<') >= 0 ? 'x' : shown.indexOf('#') >= 0 ? 'f' : 'i';
        return kind == want ? shown : shown + " of the kind " + kind;
    }

    private static String form(RankTrain x) {
        StringBuilder b = new StringBuilder("form ").append(x.kind());
        for (int k = 0; k < x.rank(); k++) {
            b.append(' ').append(x.length(k));
        }
        return b.toString();
    }

    private static String told(RankTrain x, char answer, boolean isForm) {
        if (answer == 'n') {
            return isForm ? form(x) : withItsKind(shown(x), x.kind());
        }
        return answer == 'e' ? "! " + x.error() + x.errorAt() : answer == 'v' ? "verb" : "nothing";
    }

    private static void check(String sentence, String lines, String due) {
        int bar = due.indexOf(" | ");
        String want = bar < 0 ? due : due.substring(0, bar);
        RankTrain x = new RankTrain();
        calls = 0;
        char answer = ' ';
        for (String line : lines.split(";", -1)) {
            answer = run(x, repeated(line.strip()));
        }
        String got = told(x, answer, want.startsWith("form "));
        if (bar >= 0) {
            got += " | " + x.cost() + " " + x.applications() + " " + x.specials();
        }
        if (!got.equals(repeated(due)) || calls > MOST_CALLS) {
            wrong++;
            System.out.println(sentence + "\n    " + lines + "\n    answered " + got + "\n    due is   " + repeated(due) + " (" + calls + " calls)");
        }
    }

    public static void main(String[] args) throws IOException {
        String document = Files.readString(Path.of("../shared/DOC.md"));
        List<String> told = new ArrayList<>();
        int cases = 0;
        String sentence = "";
        for (String line : Files.readAllLines(Path.of("src/test/sentences.txt"))) {
            int arrow = line.indexOf(" --> ");
            if (line.startsWith("> ")) {
                sentence = line.substring(2);
                told.add(sentence);
                if (!document.contains(sentence)) {
                    wrong++;
                    System.out.println("The document does not say: " + sentence);
                }
            } else if (arrow >= 0) {
                cases++;
                check(sentence, line.substring(0, arrow), line.substring(arrow + 5));
            } else if (!line.isBlank() && !line.startsWith("# ")) {
                wrong++;
                System.out.println("What is this? " + line);
            }
        }
        System.out.println(told.size() + " sentences, " + cases + " cases, " + wrong + " wrong");
        if (wrong > 0 || cases == 0) {
            System.exit(1);
        }
    }
}
