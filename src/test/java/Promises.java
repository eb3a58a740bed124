import java.util.NoSuchElementException;
import java.util.stream.IntStream;

/** What the document promises, told line by line: what is due was worked out by hand from its words. */
public final class Promises {
    private static int wrong = 0;
    private static int checked = 0;
    private static RankTrain x = new RankTrain();
    private static int calls = 0;

    private static void due(String what, Object got, Object want) {
        checked++;
        if (!got.equals(want)) {
            wrong++;
            System.out.println(what + " answered " + got + ", due is " + want);
        }
    }

    private static void fresh() {
        x = new RankTrain();
        calls = 0;
    }

    private static void type(String text) {
        for (char c : text.toCharArray()) {
            x.type(c);
        }
    }

    private static char run(String text) {
        type(text);
        return x.run();
    }

    private static String shown() {
        StringBuilder b = new StringBuilder();
        for (int k = 0; k < x.shown(); k++) {
            b.append(x.shownAt(k));
        }
        return b.toString();
    }

    /** The line answers a noun that is shown so. */
    private static void noun(String line, String want) {
        char answer = run(line);
        due(line, answer == 'n' ? shown() : answer == 'e' ? "error " + x.error() + x.errorAt() : "" + answer, want);
    }

    /** The line ends with an error, told as its letter and its word. */
    private static void fails(String line, String want) {
        char answer = run(line);
        due(line, answer == 'e' ? "" + x.error() + x.errorAt() : answer == 'n' ? shown() : "" + answer, want);
    }

    private static void verb(String line) {
        due(line, run(line), 'v');
    }

    /** What the last line took. */
    private static void took(long cost, int applications, int specials) {
        due("cost", x.cost(), cost);
        due("applications", x.applications(), applications);
        due("specials", x.specials(), specials);
    }

    private interface Call {
        Object get();
    }

    private static void throwsA(Class<?> wanted, String what, Call call) {
        Object got;
        try {
            got = call.get();
        } catch (RuntimeException e) {
            got = e.getClass();
        }
        due(what, got, wanted);
    }

    private static void noNoun() {
        throwsA(NoSuchElementException.class, "kind", () -> x.kind());
        throwsA(NoSuchElementException.class, "rank", () -> x.rank());
        throwsA(NoSuchElementException.class, "length", () -> x.length(-1));
        throwsA(NoSuchElementException.class, "size", () -> x.size());
        throwsA(NoSuchElementException.class, "cell", () -> x.cell(-1));
        throwsA(NoSuchElementException.class, "shown", () -> x.shown());
        throwsA(NoSuchElementException.class, "shownAt", () -> x.shownAt(-1));
        throwsA(NoSuchElementException.class, "retype", () -> x.retype());
        throwsA(NoSuchElementException.class, "answeredBefore", () -> x.answeredBefore());
    }

    private static void noError() {
        throwsA(NoSuchElementException.class, "error", () -> x.error());
        throwsA(NoSuchElementException.class, "errorAt", () -> x.errorAt());
    }

    // Promise 1
    private static void newObject() {
        fresh();
        noNoun();
        noError();
        took(0, 0, 0);
        for (int k = 0; k < 6; k++) {
            due("named", x.named(k), '-');
        }
        due("words", x.words(), 0);
        due("nouns", x.nouns(), 0);
        throwsA(ArithmeticException.class, "meanCost", () -> x.meanCost());
        throwsA(ArithmeticException.class, "errorShare", () -> x.errorShare());
        due("special code is on", x.setSpecial(true), true);
    }

    // Promises 2 and 3
    private static void typeAndRun() {
        fresh();
        throwsA(IllegalArgumentException.class, "type 31", () -> x.type((char) 31));
        throwsA(IllegalArgumentException.class, "type 127", () -> x.type((char) 127));
        throwsA(IllegalArgumentException.class, "type 8364", () -> x.type((char) 8364));
        due("type 32", x.type(' '), 1);
        due("type 126", x.type('~'), 2);
        due("run", x.run(), 'e');
        due("run of nothing", x.run(), '-');
        due("run of blanks", run("   "), '-');
        noNoun();
        noError();
        for (int k = 1; k <= 80; k++) {
            due("type", x.type(k < 80 ? ' ' : '5'), k);
        }
        throwsA(IllegalStateException.class, "type the 81st", () -> x.type(' '));
        throwsA(IllegalArgumentException.class, "type a wrong one ahead", () -> x.type((char) 0));
        due("run of 80", x.run(), 'n');
        due("type anew", x.type('+'), 1);
        due("run of a verb", x.run(), 'v');
        noNoun();
        noError();
    }

    // Promise 4
    private static void retype() {
        fresh();
        run("2 2$(<1 2),(<_3),(<<5),(<i0)");
        type("z z z");
        due("retype", x.retype(), 29);
        due("words", x.words(), 24);
        noun("", "2 2$(<1 2),(<_3),(<<5),(<0$0)");
        due("typed behind", run(" "), '-');
        noNoun();
        noun("i39", "0 1 2 3 4 5 6 7 8 9 10 11 12 13 14 15 16 17 18 19 20 21 22 23 24 25 26 27 28 29 30 31 32 33 34 35 36 37 38");
        type("+");
        throwsA(UnsupportedOperationException.class, "retype", () -> x.retype());
        due("what is typed stays", x.words(), 1);
        due("run", x.run(), 'v');
        noun("30$5", "5 5 5 5 5 5 5 5 5 5 5 5 5 5 5 5 5 5 5 5 5 5 5 5 5 5 5 5 5 5");
        noun("40$5", "5 5 5 5 5 5 5 5 5 5 5 5 5 5 5 5 5 5 5 5 5 5 5 5 5 5 5 5 5 5 5 5 5 5 5 5 5 5 5 5");
        due("79 characters", x.retype(), 79);
        due("one more", x.type(' '), 80);
        due("run", x.run(), 'n');
        noun("(39$5),10", "5 5 5 5 5 5 5 5 5 5 5 5 5 5 5 5 5 5 5 5 5 5 5 5 5 5 5 5 5 5 5 5 5 5 5 5 5 5 5 10");
        due("80 characters", x.retype(), 80);
        x.run();
        due("the same again", x.answeredBefore(), 2);
        run("(39$5),100");
        throwsA(UnsupportedOperationException.class, "81 characters", () -> x.retype());
    }

    // Promise 5, and special code
    private static void special() {
        fresh();
        noun("+/1 2 3", "6");
        took(6, 1, 1);
        noun("*/\\2 3 4", "2 6 24");
        took(6, 1, 1);
        noun("+/1$7", "7");
        took(1 + 1 + 1 + 2, 2, 1);
        noun("+/7", "7");
        took(0, 0, 0);
        noun("+/\\7", "1$7");
        took(2, 1, 1);
        noun("+/2147483647 0", "2147483647");
        took(4, 1, 1);
        noun("+/2147483647 _1", "2147483646");
        took(3, 1, 0);
        noun("*/65536 32767 0", "0");
        took(6, 1, 1);
        noun("*/65536 32768 0", "0");
        took(6, 2, 0);
        noun("+/\\2147483647 _1", "2147483647 2147483646");
        // The first list is done by special code, the second one is not.
        took(2 + 3, 2, 1);
        noun("+/(2 2$1 2 3 4)", "4 6");
        took(2 + 4 + 4 + 6, 3, 0);
        noun("+/\"1(2 2$1 2 3 4)", "3 7");
        took(2 + 4 + 4 + 8, 3, 2);
        noun("1 2+/1 2 3", "2 3$2 3 4 3 4 5");
        took(18, 6, 0);
        noun("-/1 2 3", "2");
        took(6, 2, 0);
        noun("A:(+)/", "v");
        noun("A 1 2 3", "6");
        took(6, 1, 1);
        verb("B:+");
        noun("B/1 2 3", "6");
        took(6, 2, 0);
        noun("+/#3ff0000000000000 2", "#4008000000000000");
        took(3, 1, 0);
        due("setSpecial", x.setSpecial(false), true);
        due("setSpecial", x.setSpecial(false), false);
        noun("+/1 2 3", "6");
        took(6, 2, 0);
        noun("+/\\1 2 3", "1 3 6");
        took(9, 3, 0);
        due("setSpecial", x.setSpecial(true), false);
        // 600 applications are done with the last of these sums, and one is too many.
        verb("A:[^9^9");
        noun("(+/@(A@A@A@A@A@A@A)@([^9)@([^9)@([^9))1 2", "3");
        took(594 * 4 + 4, 595, 1);
        noun("(+/@[@[@[@[@[@(A@A@A@A@A@A@A)@([^9)@([^9)@([^9))1 2", "3");
        took(599 * 4 + 4, 600, 1);
        fails("(+/@[@[@[@[@[@[@(A@A@A@A@A@A@A)@([^9)@([^9)@([^9))1 2", "m2");
        took(600 * 4, 601, 0);
    }

    // Promises 6 and 7
    private static void errors() {
        fresh();
        fails("1 2a", "s0");
        noNoun();
        took(0, 0, 0);
        fails("A:5 + 3 _x", "s5");
        fails("A:5 + 3 4_x", "s4");
        due("nothing is done", x.named(0), '-');
        fails("+ 2147483648", "s1");
        fails("1 2 _2147483649", "s0");
        fails("1 2 3 5_1", "s0");
        fails("1+#0123456789abcdef0", "s2");
        fails("_", "s0");
        fails("5 G", "s1");
        fails("5;", "s1");
        fails(")", "s0");
        fails("1 + ( 2", "s0");
        fails("/", "s0");
        fails("A:", "s0");
        fails("(5:3)", "s0");
        fails("3+F 3", "v2");
        fails("A:5 F", "s0");
        noun("A:5", "5");
        fails("(A:6)+(<3)", "d5");
        due("a name that was given stays", run("A"), 'n');
        due("its cell", x.cell(0), 6L);
        fails("(<3)+A:7", "d4");
        noun("A", "7");
        noun("B:i2", "0 1");
        verb("C:D@-");
        noun("D:3", "3");
        // The verb of the name D was made at the word 2 of another line.
        fails("C 1", "v2");
        took(2, 1, 0);
        fails("1 2 + i 3", "l1");
        noun("1", "1");
        noError();
    }

    // Promises 8 to 12
    private static void arrays() {
        fresh();
        run("2 0 3$0");
        due("kind", x.kind(), 'i');
        due("rank", x.rank(), 3);
        due("length", x.length(1), 0);
        due("length", x.length(2), 3);
        throwsA(IndexOutOfBoundsException.class, "length 3", () -> x.length(3));
        throwsA(IndexOutOfBoundsException.class, "length -1", () -> x.length(-1));
        due("size", x.size(), 0);
        throwsA(IndexOutOfBoundsException.class, "cell 0", () -> x.cell(0));
        run("7");
        due("rank", x.rank(), 0);
        throwsA(IndexOutOfBoundsException.class, "length 0", () -> x.length(0));
        due("size", x.size(), 1);
        due("cell", x.cell(0), 7L);
        throwsA(IndexOutOfBoundsException.class, "cell 1", () -> x.cell(1));
        throwsA(IndexOutOfBoundsException.class, "cell -1", () -> x.cell(-1));
        run("1 #c000000000000000");
        due("kind", x.kind(), 'f');
        due("cell", x.cell(0), Double.doubleToLongBits(1.0));
        due("cell", x.cell(1), Double.doubleToLongBits(-2.0));
        run("#fff8000000000123");
        due("no number", x.cell(0), Double.doubleToLongBits(Double.NaN));
        run("(<1 2),(<i0),(<<5)");
        due("kind", x.kind(), 'x');
        due("cell", x.cell(0), 2L);
        due("cell", x.cell(1), 0L);
        due("cell", x.cell(2), 1L);
        run("_2147483648");
        due("cell", x.cell(0), -2147483648L);
    }

    // Promises 13 and 14
    private static void shownNouns() {
        fresh();
        noun("5", "5");
        noun("_5 10", "_5 10");
        noun("_2147483648", "_2147483648");
        noun("_0", "0");
        noun("1$5", "1$5");
        noun("i0", "0$0");
        noun("2 2$i4", "2 2$0 1 2 3");
        noun("10 1$i10", "10 1$0 1 2 3 4 5 6 7 8 9");
        noun("1 64$0", "1 64$0" + " 0".repeat(63));
        noun("0 64$0", "0 64$0");
        noun("0$#3ff0000000000000", "0$#0000000000000000");
        noun("#000000000000ABCD", "error s1");
        noun("#000000000000abcd 1", "#000000000000abcd #3ff0000000000000");
        noun("<5", "<5");
        noun("<<1 2", "<<1 2");
        noun("1$<5", "1$(<5)");
        noun("3 0$<5", "3 0$(<i0)");
        noun("(<2 2$i4),(<<1$3)", "2$(<2 2$0 1 2 3),(<<1$3)");
        noun("<(<1),(<2)", "<2$(<1),(<2)");
        due("shown", x.shown(), 12);
        due("shownAt", x.shownAt(11), ')');
        throwsA(IndexOutOfBoundsException.class, "shownAt 12", () -> x.shownAt(12));
        throwsA(IndexOutOfBoundsException.class, "shownAt -1", () -> x.shownAt(-1));
        // 64 boxes with 64 boxes, five times over: this is told without ever being written out.
        run("64$<64$<64$<64$<64$<i64");
        due("shown", x.shown() > 0, true);
        due("shownAt", x.shownAt(0), '6');
        due("shownAt", x.shownAt(2000000000) != ' ', true);
    }

    // Promises 15 to 17
    private static void costs() {
        fresh();
        noun("1+2 3 4", "3 4 5");
        took(9, 3, 0);
        noun("#2 3$i6", "2");
        took((1 + 6) + (2 + 6 + 6) + (6 + 1), 3, 0);
        fails("1 2+(<3)", "d1");
        took(2, 2, 0);
        fails("1 2+1 2 3", "l1");
        took(0, 0, 0);
        fails("r^9^9^9 1 2", "r5");
        fails("(r^9^9^9)1 2", "m1");
        took(600 * 4, 601, 0);
        noun("(r^9^9)1 2", "2 1");
        took(81 * 4, 81, 0);
        noun("-i0", "0$0");
        took((1 + 0) + 2, 2, 0);
        noun("=i0", "0$0");
        took(1, 2, 0);
        due("run", run(""), '-');
        took(0, 0, 0);
        verb("+");
        took(0, 0, 0);
    }

    // Promise 18
    private static void names() {
        fresh();
        noun("A:5", "5");
        verb("B:+");
        verb("C:A+B");
        due("named A", x.named(0), 'n');
        due("named B", x.named(1), 'v');
        due("named C", x.named(2), 'v');
        due("named F", x.named(5), '-');
        throwsA(IndexOutOfBoundsException.class, "named 6", () -> x.named(6));
        throwsA(IndexOutOfBoundsException.class, "named -1", () -> x.named(-1));
        // In C, A is the noun that it had, and B what it has when it is applied.
        noun("C 1", "6");
        verb("B:-");
        noun("C 1", "4");
        noun("A:3", "3");
        noun("C 1", "4");
        noun("2*A:B 7", "_14");
        noun("A", "_7");
        noun("B:A:4", "4");
        noun("A,B", "4 4");
        fails("C 1", "v4");
        verb("F:F");
        fails("F 1", "m2");
        noun("A:i0", "0$0");
        due("named A", x.named(0), 'n');
    }

    // Promises 19 and 20
    private static void words() {
        fresh();
        type("A:1 2 _3(+/\\~)@\"^U&#");
        due("words", x.words(), 15);
        StringBuilder sorts = new StringBuilder();
        for (int k = 0; k < x.words(); k++) {
            sorts.append(x.wordAt(k));
        }
        due("wordAt", sorts.toString(), "w:n(vaaa)cccccv");
        throwsA(IndexOutOfBoundsException.class, "wordAt -1", () -> x.wordAt(-1));
        x.run();
        due("words of nothing", x.words(), 0);
        type("+ 1 2 3 z 4");
        due("words", x.words(), 2);
        due("wordAt", x.wordAt(1), 'n');
        throwsA(IndexOutOfBoundsException.class, "wordAt 2", () -> x.wordAt(2));
        x.run();
        type("+ 1 2 3z 4");
        due("words", x.words(), 1);
        x.run();
        type("1#2#3ff00000000000004 5");
        due("a bit word with a tail", x.words(), 2);
        x.run();
        type("1#2#3ff0000000000000 5");
        due("words", x.words(), 3);
        x.run();
        due("what it was", shown(), "#4000000000000000 #3ff0000000000000 #4014000000000000");
    }

    // Promises 21 to 24
    private static void totals() {
        fresh();
        noun("1", "1");
        noun("#3ff0000000000000", "#3ff0000000000000");
        noun("1$1", "1$1");
        noun("0+1", "1");
        due("nouns", x.nouns(), 3);
        due("answeredBefore", x.answeredBefore(), 2);
        noun("#8000000000000000", "#8000000000000000");
        noun("#0000000000000000", "#0000000000000000");
        due("nouns", x.nouns(), 5);
        noun("#7ff8000000000000", "#7ff8000000000000");
        noun("0%0", "#7ff8000000000000");
        due("what is no number", x.answeredBefore(), 2);
        noun("<1", "<1");
        noun("<#3ff0000000000000", "<#3ff0000000000000");
        due("nouns", x.nouns(), 8);
        noun("<1", "<1");
        due("answeredBefore", x.answeredBefore(), 2);
        noun("i0", "0$0");
        noun("0$<1", "0$(<i0)");
        due("nouns", x.nouns(), 10);
        verb("+");
        throwsA(NoSuchElementException.class, "answeredBefore", () -> x.answeredBefore());
        fails("z", "s0");
        due("nouns", x.nouns(), 10);
        due("errorShare", x.errorShare(), 1f / 15f);
        // The costs are 2 of 1$1, 3 of 0+1, 3 of 0%0, 2 of each of three boxes, 1 of i0 and 2 of 0$<1 and its box.
        due("meanCost", x.meanCost(), (3.0 + 3 + 3 + 6 + 1 + 2 + 2) / 15);
        run("");
        due("errorShare", x.errorShare(), 1f / 16f);
    }

    private static String word(long whole) {
        return "#" + String.format("%016x", Double.doubleToLongBits((double) whole));
    }

    private static void arithmetic() {
        fresh();
        noun("2147483647+1", "#41e0000000000000");
        noun("_2147483648-1", "#c1e0000000200000");
        noun("1 2147483647+1", "#4000000000000000 #41e0000000000000");
        noun("-_2147483648", "#41e0000000000000");
        noun("|_2147483648 5", "#41e0000000000000 #4014000000000000");
        noun("2147483647*2147483647", "#43cfffffff800000");
        noun("46341*46341", "#41e0000243200000");
        noun("46340*_46340", "_2147395600");
        // A long in the middle of two doubles becomes the even one.
        noun("94906267*94906267", word(94906267L * 94906267));
        noun("94906267*_94906269", word(94906267L * -94906269));
        noun("*_5 0 7", "_1 0 1");
        noun("*#bff0000000000000 #8000000000000000 #7ff8000000000000", "_1 0 0");
        noun("%4", "#3fd0000000000000");
        noun("6%3", "#4000000000000000");
        noun("1%0", "#7ff0000000000000");
        noun("_1%0", "#fff0000000000000");
        noun("0%0", "#7ff8000000000000");
        noun("3|7 _7", "1 2");
        noun("_3|7 _7", "_2 _1");
        noun("0|7", "7");
        noun("0|#8000000000000000", "#8000000000000000");
        noun("#3ff8000000000000|4", "#3ff0000000000000");
        noun("1=1 2", "1 0");
        noun("1=#3ff0000000000000", "1");
        noun("(0%0)=0%0", "0");
        noun("(0%0) n 0%0", "1");
        noun("#8000000000000000=0", "1");
        noun("1 2 3<2", "1 0 0");
        noun("1 2 3>2", "0 0 1");
        noun("1 2 3 n 2", "1 0 1");
        noun("2147483647>#41dfffffffc00000", "0");
        fails("=5", "d0");
        fails("-<5", "d0");
        fails("1=<1", "d1");
        fails("1 n<1", "d1");
        fails("1<<1", "d1");
        noun("+<\"0 i0", "0$0");
    }

    private static void ranks() {
        fresh();
        noun("1 2+2 2$10 20 30 40", "2 2$11 21 32 42");
        fails("1 2+3 2$0", "l1");
        noun("(2 2$1 2 3 4)+\"1(10 20)", "2 2$11 22 13 24");
        noun("#\"1(2 3$0)", "3 3");
        noun("#\"_1(2 3 2$0)", "3 3");
        noun("#\"_9(2 3$0)", "2 3$1 1 1 1 1 1");
        noun("#\"99(2 3$0)", "2");
        noun("1 2,\"0(3 4)", "2 2$1 3 2 4");
        noun("1 2,\"0 1(3 4)", "2 3$1 3 4 2 3 4");
        noun("(,\"1 0)1 2", "2 1$1 2");
        noun("(,\"1 0 0)1 2", "1 2");
        noun("i\"0(1 2 3)", "3 3$0 0 0 0 1 0 0 1 2");
        noun("i\"0(0 2)", "2 2$0 0 0 1");
        noun("$\"0(5)", "0$0");
        fails("+\"(1 1$0)5", "r1");
        fails("+\"(0$0)5", "l1");
        fails("+\"(1 1 1 1)5", "l1");
        fails("+\"#3ff0000000000000 5", "d1");
        fails("+\"+", "d1");
        fails("5\"0", "d1");
        fails("(+\"(1 1$#3ff0000000000000))5", "d2");
        // A frame without cells: a cell of zeros tells the shape and the kind.
        noun("(i\"0)i0", "0 0$0");
        noun("(%\"0)i0", "0$#0000000000000000");
        noun("(<\"0)i0", "0$(<i0)");
                noun("(3&$\"0)i0", "0 3$0");
        noun("(>)0$<5", "0 0$0");
        noun("(-\"0)0$<5", "0$0");
        noun("5+i0", "0$0");
        fails("(9 9&$\"0)i0", "m3");
        noun("1 2{\"0 1(2 3$i6)", "1 5");
        noun("(1 2,\"0(<3))", "error d2");
        noun(">(<1),(<i2),(<2 2$7)", "3 2 2$1 0 0 0 0 1 0 0 7 7 7 7");
        noun(">(<1),(<#3ff0000000000000)", "#3ff0000000000000 #3ff0000000000000");
        noun(">(<i0),(<1)", "2 1$0 1");
        noun(">(<0 3$0),(<1)", "2 1 3$0 0 0 1 0 0");
        fails(">(<1),(<<1)", "d0");
        noun(">(<i0),(<0$<1)", "error d0");
        noun(">(<<1),(<(<1),(<2))", "2 2$(<1),(<0$0),(<1),(<2)");
        fails("(64 2$\"1 0 i2)", "m2");
        fails("(5 5 5&$\"0)1", "m3");
        fails("(i\"1)8 2$8", "m2");
        fails("(9&$\"0)i9", "m4");
        noun("(#\"1)(64 64 0$0)", "error m1");
    }

    private static void structures() {
        fresh();
        noun("#5", "1");
        noun("#i0", "0");
        noun("$2 3$0", "2 3");
        noun("$5", "0$0");
        noun(",2 2$i4", "0 1 2 3");
        noun(",5", "1$5");
        noun("i2 3", "2 3$0 1 2 3 4 5");
        noun("ii0", "0");
        noun("i0 3", "0 3$0");
        fails("i_1", "d0");
        fails("i#3ff0000000000000", "d0");
        fails("i65", "m0");
        fails("i9 9", "m0");
        fails("i1 1 1 1", "m0");
        fails("i1 1 1 _1", "d0");
        noun("i\"1(2 2$2 1 1 2)", "2 2 2$0 0 1 0 0 1 0 0");
        noun("g 3 1 2 1", "1 3 2 0");
        noun("g 5", "1$0");
        noun("g 3 2$1 2 1 1 0 9", "2 1 0");
        noun("g #0000000000000000 #8000000000000000 #7ff8000000000000 #7ff0000000000000", "1 0 3 2");
        fails("g<5", "d0");
        fails("1 g 5", "d1");
        fails("1 t 5", "d1");
        noun("r 1 2 3", "3 2 1");
        noun("r 5", "1$5");
        noun("r 2 2$i4", "2 2$2 3 0 1");
        noun("1 r 1 2 3", "2 3 1");
        noun("_1 r 1 2 3", "3 1 2");
        noun("7 r 1 2 3", "2 3 1");
        noun("2 r 5", "1$5");
        noun("3 r i0", "0$0");
        fails("(1$1) r 1 2", "r5");
        fails("(1$#3ff0000000000000) r 1 2", "d5");
        noun("t 2 3$i6", "3 2$0 3 1 4 2 5");
        noun("t i2 1 3", "3 1 2$0 3 1 4 2 5");
        noun("n 1 2 1 3 2", "1 2 3");
        noun("n 5", "1$5");
        noun("n (<1),(<#3ff0000000000000),(<1 1)", "2$(<1),(<1 1)");
        noun("n (<1),(<#3ff0000000000000)", "1$(<1)");
        noun("n(<1),(<1$1)", "2$(<1),(<1$1)");
        noun("n(0%0),0%0", "#7ff8000000000000 #7ff8000000000000");
        noun("n 3 2$1 2 1 2 3 4", "2 2$1 2 3 4");
        noun("n 3 0$0", "1 0$0");
        noun("h 3 4", "3");
        noun("h 5", "5");
        noun("h 2 2$i4", "0 1");
        noun("h 0 3$0", "0 0 0");
        noun("h 0$<5", "<0$0");
        noun("2 h 1 2 3", "1 2");
        noun("_2 h 1 2 3", "2 3");
        noun("5 h 1 2 3", "1 2 3 0 0");
        noun("_5 h 1 2 3", "0 0 1 2 3");
        noun("0 h 1 2 3", "0$0");
        noun("2 h 5", "5 0");
        noun("3 h(<1),(<2)", "3$(<1),(<2),(<0$0)");
        noun("2 h 1 2$7 8", "2 2$7 8 0 0");
        fails("65 h 1", "m1");
        fails("_2147483648 h 1", "m1");
        fails("(1$1) h 1", "r5");
        fails("(<1) h 1", "d4");
        noun("e 1 2 3", "2 3");
        noun("e 5", "0$0");
        noun("2 e 1 2 3", "1$3");
        noun("_1 e 1 2 3", "1 2");
        noun("9 e 1 2 3", "0$0");
        noun("_2147483648 e 1 2 3", "0$0");
        noun("[5", "5");
        noun("]5", "5");
        noun("1[2", "1");
        noun("1]2", "2");
    }

    private static void copiesAndJoins() {
        fresh();
        noun("3#5", "5 5 5");
        noun("2#1 2", "1 1 2 2");
        noun("1 0 2#4 5 6", "4 6 6");
        noun("0#1 2", "0$0");
        noun("(2 3$1 0 1 0 1 0)#4 5 6", "2 2$4 6 5 0");
        fails("1 2#1 2 3", "l1");
        fails("(1$1)#1 2 3", "l5");
        fails("_1#1 2", "d1");
        fails("1 _1#1 2 3", "d1");
        fails("#3ff0000000000000#1 2", "d1");
        fails("(<1)#1 2", "d4");
        fails("65#1", "m1");
        fails("2147483647#1 2 3", "m1");
        noun("2 2$1 2 3", "2 2$1 2 3 1");
        noun("3$5", "5 5 5");
        noun("(i0)$5 6", "5");
        noun("0$i0", "0$0");
        fails("2$i0", "l1");
        fails("65$i0", "m1");
        fails("_1$1", "d1");
        fails("(<1)$1", "d4");
        fails("0 100$1", "m1");
        noun("64 64 0$1", "64 64 0$0");
        fails("1 1 1 1$1", "m1");
        noun("(2 2$1 2 3 0)$5", "2 3 2$5 5 0 0 0 0 0 0 0 0 0 0");
        noun("(2 1$1 2)$5", "2 2$5 0 5 5");
        noun("1,2", "1 2");
        noun("1 2,3", "1 2 3");
        noun("(i0),i0", "0$0");
        noun("1,#3ff0000000000000", "#3ff0000000000000 #3ff0000000000000");
        fails("1,<1", "d1");
        fails("(i0),0$<1", "d4");
        noun("(<1),<2", "2$(<1),(<2)");
        noun("(2 2$i4),5", "3 2$0 1 2 3 5 5");
        noun("5,2 2$i4", "3 2$5 5 0 1 2 3");
        noun("(2 2$i4),8 9", "3 2$0 1 2 3 8 9");
        noun("(1 2$8 9),2 2$i4", "3 2$8 9 0 1 2 3");
        fails("(2 2$i4),1 2 3", "l6");
        fails("(2 2$i4),2 3$0", "l6");
        fails("1 2,i2 2 2", "r1");
        fails("(<1),i2 2 2", "d4");
        fails("(i64),1", "m4");
        noun("1{4 5 6", "5");
        noun("_1 0{4 5 6", "6 4");
        noun("0{5", "5");
        noun("_1{2 2$i4", "2 3");
        fails("3{4 5 6", "x1");
        fails("_4{4 5 6", "x1");
        fails("1{5", "x1");
        fails("0{i0", "x1");
        fails("(<0){1", "d4");
        fails("{1", "d0");
        fails("(0%1){1", "d5");
        noun("4 5 6 i 5 7", "1 3");
        noun("4 5 6 i 2 2$4 6 5 9", "2 2$0 2 1 3");
        noun("(2 2$i4)i 2 3", "1");
        noun("(2 2$i4)i 3 2$2 3 0 1 1 0", "1 0 2");
        noun("(2 2$i4)i 5", "2");
        noun("(2 2$i4)i 1 2 3", "2");
        noun("5 i 5 6", "0 1");
        noun("1 2 i #4000000000000000 #8000000000000000", "1 2");
        noun("((<1 2),(<3))i<#4008000000000000", "1");
        noun("((<1 2),(<3))i 3", "2");
        noun("(i0)i 3", "0");
        noun("(0%0)i 0%0", "1");
        noun("5 i 64 64 0$0", "64 64 0$0");
        noun("1 2 i 64 64 0$0", "64 64 0$0");
        fails("(1 0$0)i 64 64 0$0", "m5");
    }

    private static void boxes() {
        fresh();
        noun("<<<<<5", "<<<<<5");
        fails("<<<<<<5", "m0");
        fails("<(<<<<<5),<1", "m0");
        noun("<(<<<<5),<1", "<2$(<<<<5),(<1)");
        noun(">5 6", "5 6");
        took(4, 2, 0);
        noun("><1 2", "1 2");
        took(2 + 1 + 1 + 2, 2, 0);
        noun("+/(<5)", "<5");
        noun("><<5", "<5");
        noun("<i0", "<0$0");
    }

    private static void adverbs() {
        fresh();
        noun("-/5 3 1", "3");
        noun("-/5", "5");
        noun("-/1$5", "5");
        noun("+/i0", "0");
        noun("*/i0", "1");
        noun("+/0$<1", "0");
        noun("*/0 2$0", "1 1");
        fails("-/i0", "d1");
        verb("A:+");
        fails("A/i0", "d1");
        fails("*/0 64 64$0", "m1");
        noun("2 3*/4 5", "2 2$8 10 12 15");
        noun("(2 2$i4),/5 6", "3 2$0 1 2 3 5 6");
        noun("1 2#/5 6", "5 6 6");
        noun("(i0)+/5 6", "0 2$0");
        noun("(i0)$/5", "5");
        noun("1 2,\"0/5 6", "2 2 2$1 5 1 6 2 5 2 6");
        fails("(i9)+/i8", "m5");
        noun("+/\\1 2 3", "1 3 6");
        noun("#\\1 2 3", "1 2 3");
        noun(",\\1 2 3", "3 3$1 0 0 1 2 0 1 2 3");
        noun("2+/\\1 2 4", "3 6");
        noun("2,\\1 2 4", "2 2$1 2 2 4");
        noun("4#\\1 2", "0$0");
        noun("#\\i0", "0$0");
        noun(",\\i0", "0 0$0");
        noun("3,\\1 2", "0 3$0");
        noun("-/\\i0", "0$0");
        noun("$\\5", "1 1$1");
        noun("1 $\\5", "1 1$1");
        fails("0#\\1 2", "d2");
        fails("(<1)#\\1 2", "d5");
        fails("1 1#\\1 2", "r2");
        fails("65#\\1 2", "m2");
        noun("2147483647#\\64 64 0$0", "error m2");
        noun("2-~5", "3");
        noun("*~5", "25");
        fails("5/", "d1");
        fails("5~", "d1");
        fails("5\\3", "d1");
    }

    private static void conjunctions() {
        fresh();
        noun("-@+5", "_5");
        noun("2(-@*)3", "_6");
        noun("(#@,)2 2$0", "4");
        noun("-&*_5", "1");
        noun("2(+&-)3", "_5");
        noun("(3&-)1 2", "2 1");
        noun("(-&3)1 2", "_2 _1");
        fails("1(3&-)2", "d3");
        fails("1(-&3)2", "d3");
        fails("3&3", "d1");
        fails("3@-", "d1");
        fails("-@3", "d1");
        fails("-U 3", "d1");
        fails("3^-", "d1");
        fails("-^-", "d1");
        noun("(-^0)5", "5");
        took(0, 0, 0);
        noun("1(-^0)5", "5");
        noun("(-^3)5", "_5");
        noun("2(+^3)5", "11");
        noun("(-^_3)5", "_5");
        noun("(-^_9)5", "_5");
        noun("(-^9)5", "_5");
        fails("2(-^_3)5", "d3");
        fails("-^11", "d1");
        fails("-^_10", "d1");
        fails("-^(1$1)", "r1");
        fails("-^#3ff0000000000000", "d1");
        noun("(e^10)1 2 3", "0$0");
        took(5 + 3 + 1 + 0, 4, 0);
        noun("(+^10)5", "5");
        took(2, 1, 0);
        fails("(-^10)5", "m2");
        took(100, 50, 0);
        noun("(-^10)0", "0");
        fails("(+^10)0%0", "m2");
        noun("3+U-5", "8");
        noun("(1&+)U(2&*)5", "#4016000000000000");
        noun("(r U-)1 2", "2 1");
        noun("2-U%4", "#4010000000000000");
        fails("(+U#)5", "n3");
        took(2 + 2, 2, 0);
    }

    private static void inverses() {
        fresh();
        noun("(%^_1)4", "#3fd0000000000000");
        noun("(r^_1)1 2", "2 1");
        noun("(t^_1)1 2$5 6", "2 1$5 6");
        noun("([^_2)7", "7");
        noun("(<^_1)<5", "5");
        noun("(>^_2)5", "<<5");
        noun("(3&+^_1)10", "7");
        noun("(+&3^_2)10", "4");
        noun("(-&3^_1)10", "13");
        noun("(3&-^_1)10", "_7");
        noun("(4&*^_1)10", "#4004000000000000");
        noun("(*&4^_1)10", "#4004000000000000");
        noun("(%&4^_1)10", "40");
        noun("(5&%^_1)10", "#3fe0000000000000");
        noun("((2&*)@(1&+)^_1)10", "#4010000000000000");
        noun("((2&*)&(1&+)^_1)10", "#4010000000000000");
        noun("(r\"1^_1)2 2$i4", "2 2$1 0 3 2");
        noun("(1&+^3^_1)10", "7");
        noun("(1&+^_3^_1)10", "13");
        fails("(*^_1)5", "n1");
        fails("(,^_1)5", "n1");
        fails("(+/^_1)5", "n2");
        fails("(+~^_1)5", "n2");
        fails("(3&#^_1)5", "n2");
        fails("((#@*)^_1)5", "n2");
        fails("((-@*)^_1)5", "n4");
        took(0, 0, 0);
        fails("(-^10^_1)5", "n2");
        fails("(-U-^_1)5", "n2");
        fails("((+-*)^_1)5", "n3");
        fails("((+-)^_1)5", "n2");
        fails("(#\"0^_1)5", "n1");
        fails("(A^_1)5", "v1");
        verb("A:2&*");
        noun("(A^_1)6", "#4008000000000000");
        fails("((B:3)&A^_1)6", "n6");
        fails("(3&+^_1)<6", "d3");
        fails("((1 2&+)^_1)1 2 3", "l4");
        verb("A:A");
        fails("(A^_1)5", "m2");
    }

    private static void trains() {
        fresh();
        noun("(+/%#)1 2 3 6", "#4008000000000000");
        noun("2(+*-)5", "_21");
        noun("(1+*)5", "2");
        noun("3(1 2+*)4", "13 14");
        noun("(+-)5", "0");
        noun("7(+-)5", "2");
        noun("(-+*%)4", "#4008000000000000");
        noun("+-5", "_5");
        // h is done ahead of f.
        fails("({+=)5", "d3");
        fails("({+#)5", "d1");
    }

    private static void depths() {
        fresh();
        verb("A:-@A");
        fails("A 5", "m4");
        took(0, 0, 0);
        verb("A:A@-");
        fails("A 5", "m4");
        took(38, 20, 0);
        // 40 deep is as deep as it goes: the name, 38 powers, and the verb itself.
        verb("A:-" + "^1".repeat(38));
        noun("A 5", "_5");
        fails("(A^1)5", "m2");
        took(0, 1, 0);
        fails("(A^1)i0", "m2");
        // What is made for the inverse of 1&+ is at the word of "+", and applies "-" one deeper.
        verb("A:1&+^_1" + "^1".repeat(36));
        noun("A 5", "4");
        fails("(A^1)5", "m4");
        took(0, 1, 0);
        fails("(A^1^1)5", "m4");
        took(0, 0, 0);
        // What takes no applications could be repeated for ages.
        noun("(+^0^9^9^9^9^9^9^9^9^9^9^9^9^9^9^9^9^9^9^9)5", "5");
        took(0, 0, 0);
    }

    /** An inverse is looked for without a depth; only what is applied has one. */
    private static void farInverses() {
        fresh();
        String wraps = "\"3".repeat(36);
        verb("A:-@(-@(-@-))");
        // The power is 37 deep, the first "-" 39, the second one 40, the third one and the fourth one 41.
        fails("(A^_1" + wraps + ")<5", "d2");
        took(2, 2, 0);
        fails("(A^_1" + wraps + ")5", "m8");
        took(4, 3, 0);
        noun("(A^_1" + wraps.substring(4) + ")5", "5");
        verb("A:-@(-@(-@=))");
        fails("(A^_1" + wraps + ")<5", "n10");
        took(2, 1, 0);
        fails("(A^_1)<5", "n10");
        verb("A:-@(-@(-@B))");
        fails("(A^_1" + wraps + ")<5", "v10");
        verb("B:-");
        noun("(A^_1)5", "5");
        // The first "-" of B is 40 deep in C, which has no depth for B itself, and 41 deep in D.
        verb("B:-" + "@-".repeat(37));
        verb("C:B@B");
        noun("(C^_1)5", "5");
        took(76 * 2, 76, 0);
        fails("(C^_1)<5", "d2");
        took(2, 2, 0);
        verb("D:C@C");
        fails("(D^_1)5", "m2");
        took(0, 1, 0);
        // In U, the inverse is needed when the other verbs are done.
        verb("D:(-@(-@(-@+)))U(+@(+@(+@#)))");
        fails("D 5", "n25");
        took(4 * 2 + 4 * 2, 8, 0);
    }

    /** An inverse that is made of itself goes on until it is too deep or wrong. */
    private static void endlessInverses() {
        fresh();
        verb("A:A@-");
        fails("(A^_1)5", "m3");
        took(0, 0, 0);
        verb("A:-@A");
        fails("(A^_1)5", "m2");
        took(38 * 2, 39, 0);
        fails("(A^_1)<5", "d2");
        took(2, 2, 0);
        verb("A:A@=");
        fails("(A^_1)5", "m3");
        verb("A:=@A");
        fails("(A^_1)5", "n2");
        verb("B:C");
        verb("C:B");
        fails("(B^_1)5", "m2");
    }

    /** Verbs that are no single characters may be applied as often as a line asks for it. */
    private static void manyVerbs() {
        fresh();
        verb("A:]^0");
        for (String name : new String[] {"BA", "CB", "DC", "ED", "FE"}) {
            verb(name.charAt(0) + ":((AAA)A(AAA))A((AAA)A(AAA))".replace('A', name.charAt(1)));
        }
        noun("F 5", "5");
        took(0, 0, 0);
        noun("((FFF)F(FFF))F((FFF)F(FFF))5", "5");
        noun("1 F 1 2", "1 2");
        for (String name : new String[] {"BA", "CB", "DC", "ED", "FE"}) {
            verb(name.charAt(0) + ":((A@A)@(A@A))@((A@A)@(A@A))".replace('A', name.charAt(1)));
        }
        noun("(F^_1)5", "5");
        took(0, 0, 0);
        fresh();
        verb("A:]^0/@(]^0/@(]^0/@(]^0/@(]^0/\\)\\)\\)\\)");
        for (String name : new String[] {"BA", "CB", "DC", "ED"}) {
            verb(name.charAt(0) + ":]^0/@(]^0/@(]^0/@(A\\)\\)\\)".replace('A', name.charAt(1)));
        }
        noun("E i64", "63");
        took(65, 1, 0);
        noun("E\"1(8 8$i64)", "7 15 23 31 39 47 55 63");
    }

    /** What is known of verbs that took nothing is known for the same arguments, names and depths alone. */
    private static void knownVerbs() {
        fresh();
        verb("A:]^0~");
        noun("(1 A 5),(2 A 5),(1 A 6),(1 A 5)", "1 2 1 1");
        noun("(A 5),(1 A 5),A 5", "5 1 5");
        verb("B:(A]^0)/");
        noun("(B 1%1 5),((A:]^0)5),(B 1%1 5)", "#3fc999999999999a #4014000000000000 #3ff0000000000000");
        noun("(A 1$5),(A 5),A 1$#4014000000000000", "#4014000000000000 #4014000000000000 #4014000000000000");
        noun("(<A 1$5),(<A 5),<A 1 1$5", "3$(<1$5),(<5),(<1 1$5)");
        verb("A:]^0");
        noun("(<A 0),(<A #0000000000000000),(<A<i0),(<A(0$0)),<A 1$0", "5$(<0),(<#0000000000000000),(<<0$0),(<0$0),(<1$0)");
        verb("A:+/");
        x.setSpecial(false);
        noun("A 1$5", "5");
        took(3, 1, 0);
        x.setSpecial(true);
        noun("A 1$5", "5");
        took(5, 2, 1);
        // Nouns without cells are told from one another by each of their lengths.
        verb("A:]^0");
        noun("($A 64 0 0$7),($A 0 0 0$7),($A 63 0 0$7),$A 0 1 0$7", "64 0 0 0 0 0 63 0 0 0 1 0");
        noun("($A 0 0 64$7),($A 0 0 63$7),($A 0 64 0$7),$A 0 63 0$7", "0 0 64 0 0 63 0 64 0 0 63 0");
        // Cells that are far from one another are looked for at the same place.
        noun("(]^0\"0)8192*i16", "0 8192 16384 24576 32768 40960 49152 57344 65536 73728 81920 90112 98304 106496 114688 122880");
        noun("7(]^0~\"0)8192*i9", "7 7 7 7 7 7 7 7 7");
        noun("(8192*i9)(]^0~\"0)7", "0 8192 16384 24576 32768 40960 49152 57344 65536");
        // A leads 31 deeper, whether it was applied or known.
        verb("A:]^0" + "\"3".repeat(30));
        verb("B:A@(]^0)");
        noun("((B" + "\"3".repeat(6) + ")5),(B 5),(A 5)", "5 5 5");
        fails("((B" + "\"3".repeat(7) + ")5),(B 5),(A 5)", "m3");
        fails("((B" + "\"3".repeat(7) + ")5),(B 5),(B 5)", "m3");
    }

    /** So many applications that took nothing that some of them are bound to be looked for at the same place. */
    private static void manyKnownVerbs() {
        for (int k = 0; k < 80; k++) {
            if (k % 8 == 0) {
                fresh();
            }
            StringBuilder b = new StringBuilder();
            for (int cell = 0; cell < 64; cell++) {
                b.append(cell > 0 ? " " : "").append(1000 * k + cell);
            }
            noun("(" + 1000 * k + "+i64)(]^0~\"0)/5", b.toString());
            noun("5(]^0\"0)/" + 1000 * k + "+i64", b.toString());
        }
    }

    /** More applications that took nothing than there is room to know of: some are forgotten and applied again. */
    private static void forgottenVerbs() {
        fresh();
        noun("B:5", "5");
        noun("A:i64", "0" + IntStream.range(1, 64).mapToObj(k -> " " + k).reduce("", String::concat));
        for (String order : new String[] {"", "~"}) {
            String line = "(]^0/@(]^0" + order + "^1".repeat(24 - order.length()) + "\"0)\"0 3)/~A";
            due(line, run(line), 'n');
            took(0, 0, 0);
            due("size", x.size(), 64);
            for (int k = 0; k < 64; k++) {
                due("cell", x.cell(k), order.isEmpty() ? 63L : (long) k);
            }
        }
    }

    public static void main(String[] args) {
        newObject();
        typeAndRun();
        retype();
        special();
        errors();
        arrays();
        shownNouns();
        costs();
        names();
        words();
        totals();
        arithmetic();
        ranks();
        structures();
        copiesAndJoins();
        boxes();
        adverbs();
        conjunctions();
        inverses();
        trains();
        depths();
        farInverses();
        endlessInverses();
        manyVerbs();
        knownVerbs();
        manyKnownVerbs();
        forgottenVerbs();
        System.out.println(checked + " checks, " + wrong + " wrong");
        if (wrong > 0) {
            System.exit(1);
        }
    }
}
