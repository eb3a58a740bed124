import java.util.NoSuchElementException;

/**
 * The exceptions of each promise: which one is thrown, which of several, and that a method that throws changes nothing.
 * For this, two objects take the same calls, but for the one that throws; then both must answer all calls alike.
 */
public final class Refusals {
    private static final int MOST_CALLS = 512;
    private static int wrong = 0;
    private static int checked = 0;

    private interface Call {
        Object on(RankTrain x);
    }

    private static void due(String what, Object got, Object want) {
        checked++;
        if (!got.equals(want)) {
            wrong++;
            System.out.println(what + " answered " + got + ", due is " + want);
        }
    }

    /** What a call answers, or the name of what it throws. */
    private static Object told(RankTrain x, Call call) {
        try {
            return call.on(x);
        } catch (RuntimeException e) {
            return e.getClass().getSimpleName();
        }
    }

    private static final Call[] QUESTIONS = {
        x -> x.words(), x -> x.wordAt(-1), x -> x.wordAt(0), x -> x.wordAt(1), x -> x.wordAt(2), x -> x.wordAt(79), x -> x.error(),
        x -> x.errorAt(), x -> x.kind(), x -> x.rank(), x -> x.length(-1), x -> x.length(0), x -> x.length(1), x -> x.length(3),
        x -> x.size(), x -> x.cell(-1), x -> x.cell(0), x -> x.cell(1), x -> x.cell(63), x -> x.cell(64), x -> x.shown(),
        x -> x.shownAt(-1), x -> x.shownAt(0), x -> x.shownAt(1), x -> x.shownAt(5), x -> x.cost(), x -> x.applications(),
        x -> x.specials(), x -> x.named(-1), x -> x.named(0), x -> x.named(1), x -> x.named(5), x -> x.named(6), x -> x.nouns(),
        x -> x.answeredBefore(), x -> x.meanCost(), x -> x.errorShare()};

    private static String answers(RankTrain x) {
        StringBuilder b = new StringBuilder();
        for (Call question : QUESTIONS) {
            b.append(told(x, question)).append(' ');
        }
        return b.toString();
    }

    /** Runs lines, parted by ";"; what is behind the last ";" is typed only. */
    private static int prepare(RankTrain x, String lines) {
        String[] all = lines.split(";", -1);
        for (int k = 0; k < all.length; k++) {
            for (char c : all[k].toCharArray()) {
                x.type(c);
            }
            if (k < all.length - 1) {
                x.run();
            }
        }
        return lines.length();
    }

    private static void refuses(String state, String what, Class<?> wanted, Call call) {
        RankTrain x = new RankTrain();
        RankTrain twin = new RankTrain();
        prepare(twin, state);
        int calls = prepare(x, state) + 1;
        due(what + " behind " + state, told(x, call), wanted.getSimpleName());
        String at = "behind " + what + " that throws behind " + state + ", all ";
        due(at + "questions", answers(x), answers(twin));
        due(at + "run", x.run(), twin.run());
        due(at + "questions then", answers(x), answers(twin));
        due(at + "special code", x.setSpecial(true), twin.setSpecial(true));
        calls += 2 * QUESTIONS.length + 2;
        prepare(x, "+/A,1 2;");
        prepare(twin, "+/A,1 2;");
        due(at + "questions in the end", answers(x), answers(twin));
        due("calls of the test in time", calls + 8 + QUESTIONS.length <= MOST_CALLS, true);
    }

    private static final Class<?> NONE = NoSuchElementException.class;
    private static final Class<?> INDEX = IndexOutOfBoundsException.class;
    private static final int[] FAR = {Integer.MIN_VALUE, -2147483647, -1000, -1, 1000, 65536, Integer.MAX_VALUE};

    // Promises 4 and 8 to 14, and 22: there is no noun.
    private static void withoutNoun() {
        String[] states = {"", "1 2", "A:5;+;", "A:5;;", "A:5;1 2+1 2 3;", "A:5;z;", "A:-;i5;A:+/;-A 5"};
        for (String state : states) {
            refuses(state, "kind", NONE, x -> x.kind());
            refuses(state, "rank", NONE, x -> x.rank());
            refuses(state, "size", NONE, x -> x.size());
            refuses(state, "shown", NONE, x -> x.shown());
            refuses(state, "retype", NONE, x -> x.retype());
            refuses(state, "answeredBefore", NONE, x -> x.answeredBefore());
            for (int index : new int[] {-1, 0, 1, 64, Integer.MAX_VALUE, Integer.MIN_VALUE}) {
                refuses(state, "length " + index, NONE, x -> x.length(index));
                refuses(state, "cell " + index, NONE, x -> x.cell(index));
                refuses(state, "shownAt " + index, NONE, x -> x.shownAt(index));
            }
        }
    }

    // Promises 6 and 7: there is no error.
    private static void withoutError() {
        for (String state : new String[] {"", "z", "A:5;", "A:5;+;", ";", "z;5;", "z;5;+", "1 2+1 2 3;;z"}) {
            refuses(state, "error", NONE, x -> x.error());
            refuses(state, "errorAt", NONE, x -> x.errorAt());
        }
    }

    // Promises 10, 12 and 14: there is no such axis, cell or place.
    private static void wrongIndexes() {
        String[] states = {"5;", "A:1$5;", "0$5;z", "i0 3;", "4 4 4$7;1+", "#3ff0000000000000;", "<5;", "0$<5;", "(<1 2),<3;A:6"};
        int[] axes = {0, 1, 1, 2, 3, 0, 0, 1, 1};
        int[] cells = {1, 1, 0, 0, 64, 1, 1, 0, 2};
        int[] places = {1, 3, 3, 5, 6 + 127, 17, 2, 7, 13};
        for (int k = 0; k < states.length; k++) {
            RankTrain x = new RankTrain();
            prepare(x, states[k]);
            due("rank", x.rank(), axes[k]);
            due("size", x.size(), cells[k]);
            due("shown", x.shown(), places[k]);
            int axis = axes[k];
            int cell = cells[k];
            int place = places[k];
            refuses(states[k], "length " + axis, INDEX, y -> y.length(axis));
            refuses(states[k], "cell " + cell, INDEX, y -> y.cell(cell));
            refuses(states[k], "shownAt " + place, INDEX, y -> y.shownAt(place));
            for (int far : FAR) {
                refuses(states[k], "length " + far, INDEX, y -> y.length(far));
                refuses(states[k], "cell " + far, INDEX, y -> y.cell(far));
                refuses(states[k], "shownAt " + far, INDEX, y -> y.shownAt(far));
            }
            due("the last place", told(x, y -> y.shownAt(place - 1)) instanceof Character, true);
            due("the last cell", cell == 0 || told(x, y -> y.cell(cell - 1)) instanceof Long, true);
            due("the last axis", axis == 0 || told(x, y -> y.length(axis - 1)) instanceof Integer, true);
        }
    }

    // Promise 2: a wrong character, and a full line; both at once are a wrong character.
    private static void wrongCharacters() {
        String full = "5 ".repeat(40);
        for (int c : new int[] {0, 1, 9, 10, 13, 31, 127, 128, 160, 255, 256, 8364, 65535}) {
            refuses("", "type " + c, IllegalArgumentException.class, x -> x.type((char) c));
            refuses("A:5;1 2", "type " + c, IllegalArgumentException.class, x -> x.type((char) c));
            refuses(full, "type " + c, IllegalArgumentException.class, x -> x.type((char) c));
        }
        for (char c : " ~5z+".toCharArray()) {
            refuses(full, "type " + c, IllegalStateException.class, x -> x.type(c));
            refuses("A:5;1 2;" + full, "type " + c, IllegalStateException.class, x -> x.type(c));
        }
        for (int c = 0; c < 65536; c++) {
            char character = (char) c;
            Object want = c >= 32 && c <= 126 ? (Object) 1 : "IllegalArgumentException";
            due("type " + c, told(new RankTrain(), x -> x.type(character)), want);
        }
        RankTrain x = new RankTrain();
        for (int k = 1; k <= 80; k++) {
            due("type", x.type('z'), k);
        }
        x.run();
        due("type behind run", x.type('5'), 1);
        x.run();
        for (int k = 1; k <= 80; k++) {
            due("type of 80 again", x.type('+'), k);
        }
        due("retype in place of them", x.run() == 'v' && x.type('5') == 1 && x.run() == 'n' && x.retype() == 1 && x.type('5') == 2, true);
    }

    // Promise 4: the line would have more than 80 characters.
    private static void tooLong() {
        Class<?> wanted = UnsupportedOperationException.class;
        refuses("A:5;(39$5),100;", "retype of 81", wanted, x -> x.retype());
        refuses("A:5;(39$5),100;1 2+", "retype of 81", wanted, x -> x.retype());
        refuses("i64;" + "5 ".repeat(40), "retype of 181", wanted, x -> x.retype());
        refuses("64$<64$<64$<64$<64$<i64;z", "retype of a great many", wanted, x -> x.retype());
        refuses("1 1 1$<64$7;", "retype of boxes", wanted, x -> x.retype());
        RankTrain x = new RankTrain();
        prepare(x, "(39$5),10;" + "z".repeat(80));
        due("80 characters", x.retype(), 80);
        due("a full line", told(x, y -> y.type(' ')), "IllegalStateException");
        due("words", x.words(), 1);
        due("once more", x.retype(), 80);
        due("run", x.run(), 'n');
        due("answeredBefore", x.answeredBefore(), 2);
        due("nouns", x.nouns(), 1);
        due("nothing is typed", x.words(), 0);
    }

    // Promises 18 and 20: there is no such name or word.
    private static void namesAndWords() {
        for (String state : new String[] {"", "A:5;F:-;", "z;1 2", "5;", "A:5;+ 1 z 2"}) {
            for (int far : FAR) {
                refuses(state, "named " + far, INDEX, x -> x.named(far));
                refuses(state, "wordAt " + far, INDEX, x -> x.wordAt(far));
            }
            refuses(state, "named 6", INDEX, x -> x.named(6));
        }
        refuses("", "wordAt 0", INDEX, x -> x.wordAt(0));
        refuses("    ", "wordAt 0", INDEX, x -> x.wordAt(0));
        refuses("1 2 3", "wordAt 1", INDEX, x -> x.wordAt(1));
        refuses("1+z", "wordAt 2", INDEX, x -> x.wordAt(2));
        refuses("1+2 3a", "wordAt 2", INDEX, x -> x.wordAt(2));
        refuses("1a", "wordAt 0", INDEX, x -> x.wordAt(0));
        refuses("1+2;", "wordAt 0", INDEX, x -> x.wordAt(0));
        refuses("+".repeat(80), "wordAt 80", INDEX, x -> x.wordAt(80));
        String sorts = "+v-v*v%v|v=v<v>v#v$v,v{vivgvrvtvnvhvev[v]v/a\\a~a@c&c\"c^cUcAwBwCwDwEwFw::(())0n1n2n3n4n5n6n7n8n9n";
        for (char c = 33; c < 127; c++) {
            int at = -1;
            for (int k = 0; k < sorts.length(); k += 2) {
                at = sorts.charAt(k) == c ? k : at;
            }
            RankTrain x = new RankTrain();
            x.type(' ');
            x.type(c);
            due("words of " + c, x.words(), at < 0 ? 0 : 1);
            due("wordAt of " + c, told(x, y -> y.wordAt(0)), at < 0 ? "IndexOutOfBoundsException" : (Object) sorts.charAt(at + 1));
            if (at < 0) {
                due("run of " + c, x.run(), 'e');
                due("error of " + c, x.error(), 's');
                due("errorAt of " + c, x.errorAt(), 0);
            }
        }
    }

    // Promises 23 and 24: there were no lines.
    private static void totals() {
        for (String state : new String[] {"", "1 2", "z"}) {
            refuses(state, "meanCost", ArithmeticException.class, x -> x.meanCost());
            refuses(state, "errorShare", ArithmeticException.class, x -> x.errorShare());
        }
        RankTrain x = new RankTrain();
        due("a line of nothing", x.run(), '-');
        due("meanCost of 0", x.meanCost(), 0.0);
        due("errorShare of 0", x.errorShare(), 0f);
        prepare(x, "z;");
        due("errorShare of one of two", x.errorShare(), 1f / 2f);
        prepare(x, "1+2;");
        due("meanCost of three", x.meanCost(), 3.0 / 3.0);
        due("errorShare of one of three", x.errorShare(), 1f / 3f);
        prepare(x, "1+2;+/1 2;");
        due("meanCost of five", x.meanCost(), 10.0 / 5.0);
        prepare(x, "-<5;");
        due("meanCost of six", x.meanCost(), 12.0 / 6.0);
        due("errorShare of two of six", x.errorShare(), 2f / 6f);
        prepare(x, "5;");
        due("meanCost of seven", x.meanCost(), 12.0 / 7.0);
    }

    // Promise 1, and that questions change nothing.
    private static void newObject() {
        due("a new object", answers(new RankTrain()), "0 " + "IndexOutOfBoundsException ".repeat(5) + "NoSuchElementException ".repeat(19)
            + "0 0 0 IndexOutOfBoundsException - - - IndexOutOfBoundsException 0 NoSuchElementException ArithmeticException ArithmeticException ");
        due("special code is on", new RankTrain().setSpecial(false), true);
        for (String state : new String[] {"", "A:5;1+", "z;", "+/1 2;"}) {
            RankTrain x = new RankTrain();
            RankTrain twin = new RankTrain();
            prepare(x, state);
            prepare(twin, state);
            answers(x);
            due("asked twice", answers(x), answers(twin));
            due("run", x.run(), twin.run());
            due("asked then", answers(x), answers(twin));
        }
    }

    // Promises 12 and 22, at their ends.
    private static void cellsAndNouns() {
        RankTrain x = new RankTrain();
        prepare(x, "(<i0),(<64$7),<5;");
        due("cells of what is in boxes", x.cell(0) + " " + x.cell(1) + " " + x.cell(2), "0 64 1");
        prepare(x, "_2147483648 2147483647;");
        due("cells", x.cell(0) + " " + x.cell(1), "-2147483648 2147483647");
        prepare(x, "#8000000000000000 #fff8000000000001;");
        due("bits", x.cell(0) == Double.doubleToLongBits(-0.0) && x.cell(1) == Double.doubleToLongBits(Double.NaN), true);
        due("nouns", x.nouns(), 3);
        due("the first time", x.answeredBefore(), 1);
        prepare(x, "#8000000000000000 #7ff8000000000000;");
        due("the second time", x.answeredBefore(), 2);
        due("nouns still", x.nouns(), 3);
        prepare(x, "#0000000000000000 #7ff8000000000000;");
        due("another noun", x.answeredBefore(), 1);
        due("nouns now", x.nouns(), 4);
    }

    // All of 512 calls are answered.
    private static void manyCalls() {
        RankTrain x = new RankTrain();
        for (int k = 1; k <= 254; k++) {
            x.type('5');
            due("run", x.run(), 'n');
        }
        due("call 509", x.answeredBefore(), 254);
        due("call 510", x.nouns(), 1);
        due("call 511", x.retype(), 1);
        due("call 512", x.run(), 'n');
    }

    public static void main(String[] args) {
        newObject();
        withoutNoun();
        withoutError();
        wrongIndexes();
        wrongCharacters();
        tooLong();
        namesAndWords();
        totals();
        cellsAndNouns();
        manyCalls();
        System.out.println(checked + " checks, " + wrong + " wrong");
        if (wrong > 0) {
            System.exit(1);
        }
    }
}
