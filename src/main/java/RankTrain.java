import java.util.ArrayList;
import java.util.Arrays;
import java.util.NoSuchElementException;

/** A session of the array language: lines are typed, run, and asked what they came to. */
public final class RankTrain {
    private static final int LINE_ROOM = 80;
    private static final int MOST_CELLS = 64;
    private static final int MOST_AXES = 3;
    private static final int MOST_DEPTH = 40;
    private static final int MOST_APPLICATIONS = 600;
    private static final int MOST_BOX_DEPTH = 5;
    private static final int NAMES = 6;
    private static final long LEAST_WHOLE = -2147483648L;
    private static final long MOST_WHOLE = 2147483647L;

    private final Bench bench;
    private final Store store;
    private final Line line;
    private final Machine machine;
    private final Sentence sentence;
    private char answer;
    private int answered;
    private int lines;
    private int wrongLines;
    private int differentNouns;
    private long costOfAll;

    public RankTrain() {
        Numbers numbers = new Numbers();
        bench = new Bench();
        store = new Store(numbers);
        line = new Line();
        machine = new Machine(bench, store, numbers);
        sentence = new Sentence(line, bench, store, numbers, machine);
        answer = ' ';
        answered = Store.EMPTY_LIST;
    }

    // ---- lines

    public int type(char character) throws IllegalArgumentException, IllegalStateException {
        if (character < 32 || character > 126) {
            throw new IllegalArgumentException("the character is out of range");
        }
        if (line.isFull()) {
            throw new IllegalStateException("the line has 80 characters");
        }
        line.add(character);
        return line.typed;
    }

    public char run() {
        bench.clear();
        answer = answerOfLine();
        line.clear();
        lines++;
        costOfAll += bench.paid;
        if (answer == 'e') {
            wrongLines++;
        }
        if (answer == 'n') {
            answered = store.keep(sentence.answeredNoun());
            Kept kept = store.at(answered);
            if (kept.answers == 0) {
                differentNouns++;
            }
            kept.answers++;
        }
        return answer;
    }

    private char answerOfLine() {
        try {
            return sentence.answer();
        } catch (IllegalStateException stopped) {
            return 'e';
        }
    }

    public int retype() throws NoSuchElementException, UnsupportedOperationException {
        long characters = answeredOne().characters;
        if (characters > LINE_ROOM) {
            throw new UnsupportedOperationException("the noun is shown by more than 80 characters");
        }
        line.clear();
        for (int k = 0; k < characters; k++) {
            line.add(store.characterAt(answered, k));
        }
        return line.typed;
    }

    public boolean setSpecial(boolean isOn) {
        boolean before = machine.isSpecial;
        machine.isSpecial = isOn;
        return before;
    }

    // ---- what the last line came to

    public char error() throws NoSuchElementException {
        if (answer != 'e') {
            throw new NoSuchElementException("the last line did not end with an error");
        }
        return bench.wrong;
    }

    public int errorAt() throws NoSuchElementException {
        if (answer != 'e') {
            throw new NoSuchElementException("the last line did not end with an error");
        }
        return bench.wrongWord;
    }

    public char kind() throws NoSuchElementException {
        return answeredOne().noun.sort;
    }

    public int rank() throws NoSuchElementException {
        return answeredOne().noun.axes;
    }

    public int length(int axis) throws NoSuchElementException, IndexOutOfBoundsException {
        Noun noun = answeredOne().noun;
        if (axis < 0 || axis >= noun.axes) {
            throw new IndexOutOfBoundsException("there is no such axis");
        }
        return noun.lengths[axis];
    }

    public int size() throws NoSuchElementException {
        return answeredOne().noun.count;
    }

    public long cell(int index) throws NoSuchElementException, IndexOutOfBoundsException {
        Noun noun = answeredOne().noun;
        if (index < 0 || index >= noun.count) {
            throw new IndexOutOfBoundsException("there is no such cell");
        }
        long content = noun.cells[index];
        return noun.sort == 'x' ? store.inBox(content).count : content;
    }

    public int shown() throws NoSuchElementException {
        return (int) Math.min(answeredOne().characters, MOST_WHOLE);
    }

    public char shownAt(int index) throws NoSuchElementException, IndexOutOfBoundsException {
        long characters = answeredOne().characters;
        if (index < 0 || index >= characters) {
            throw new IndexOutOfBoundsException("there is no such place");
        }
        return store.characterAt(answered, index);
    }

    public long cost() {
        return bench.paid;
    }

    public int applications() {
        return bench.applied;
    }

    public int specials() {
        return bench.specialTimes;
    }

    // ---- names and words

    public char named(int name) throws IndexOutOfBoundsException {
        if (name < 0 || name >= NAMES) {
            throw new IndexOutOfBoundsException("there is no such name");
        }
        return machine.hasOf(name);
    }

    public int words() {
        line.cut();
        return line.rightWords;
    }

    public char wordAt(int word) throws IndexOutOfBoundsException {
        line.cut();
        if (word < 0 || word >= line.rightWords) {
            throw new IndexOutOfBoundsException("there is no such word");
        }
        return line.sorts[word];
    }

    // ---- totals

    public int nouns() {
        return differentNouns;
    }

    public int answeredBefore() throws NoSuchElementException {
        return answeredOne().answers;
    }

    public double meanCost() throws ArithmeticException {
        if (lines == 0) {
            throw new ArithmeticException("there were no lines");
        }
        return (double) costOfAll / (double) lines;
    }

    public float errorShare() throws ArithmeticException {
        if (lines == 0) {
            throw new ArithmeticException("there were no lines");
        }
        return (float) wrongLines / (float) lines;
    }

    private Kept answeredOne() {
        if (answer != 'n') {
            throw new NoSuchElementException("the last line answered no noun");
        }
        return store.at(answered);
    }

    /** An array. A cell is a whole number, the bits of a double, or the number that the store gave to what is boxed. */
    private static final class Noun {
        final int[] lengths = new int[MOST_AXES];
        final long[] cells;
        char sort = 'i';
        int axes;
        int count = 1;
        /** Its place on the bench, or -1 if it is kept for good. */
        int place = -1;
        boolean isTooLarge;

        Noun(int room) {
            cells = new long[room];
        }

        void start(char newSort) {
            sort = newSort;
            axes = 0;
            count = 1;
            isTooLarge = false;
        }

        void addAxis(long length) {
            if (axes >= MOST_AXES || length < 0 || length > MOST_CELLS) {
                isTooLarge = true;
                return;
            }
            lengths[axes] = (int) length;
            axes++;
            count *= (int) length;
        }

        /** Adds the axes of another noun, from one on. */
        void addAxesOf(Noun other, int from) {
            for (int k = from; k < other.axes; k++) {
                addAxis(other.lengths[k]);
            }
        }

        int items() {
            return axes == 0 ? 1 : lengths[0];
        }

        int itemCells() {
            return axes == 0 ? 1 : cellsOfLast(axes - 1);
        }

        int cellsOfLast(int lastAxes) {
            int product = 1;
            for (int k = Math.max(0, axes - lastAxes); k < axes; k++) {
                product *= lengths[k];
            }
            return product;
        }

        void copyCells(Noun from, int fromCell, int toCell, int cellCount) {
            boolean isInside = fromCell >= 0 && toCell >= 0 && cellCount > 0;
            if (isInside && fromCell + cellCount <= from.count && toCell + cellCount <= cells.length) {
                System.arraycopy(from.cells, fromCell, cells, toCell, cellCount);
            }
        }
    }

    /** A noun that is kept for good, just once for each kind, shape and cells. */
    private static final class Kept {
        final Noun noun;
        final int boxDepth;
        final long characters;
        /** The number of the first noun that is the same for comparing, or -1 if this one is not even the same as itself. */
        final int twin;
        /** The one kept before it with the same hash, or -1. */
        final int next;
        int answers;

        Kept(Noun noun, int boxDepth, long characters, int twin, int next) {
            this.noun = noun;
            this.boxDepth = boxDepth;
            this.characters = characters;
            this.twin = twin;
            this.next = next;
        }
    }

    /** All nouns that are kept; what is in a box is always kept, so that equal boxes have equal numbers. */
    private static final class Store {
        /** The number of the empty list of whole numbers: a box filled with zero bits has it in it. */
        static final int EMPTY_LIST = 0;
        private static final int HASHES = 1024;
        private static final String EMPTY_BOXES = "(<i0)";

        private final Numbers numbers;
        private final ArrayList<Kept> all = new ArrayList<Kept>();
        private final int[] newest = new int[HASHES];
        private final Kept emptyList;

        Store(Numbers numbers) {
            this.numbers = numbers;
            Arrays.fill(newest, -1);
            Noun none = new Noun(0);
            none.addAxis(0);
            int hash = hashOf(none);
            emptyList = new Kept(none, 0, charactersOf(none), EMPTY_LIST, -1);
            all.add(emptyList);
            newest[hash] = EMPTY_LIST;
        }

        Kept at(long number) {
            return number >= 0 && number < all.size() ? all.get((int) number) : emptyList;
        }

        Noun inBox(long content) {
            return at(content).noun;
        }

        int keep(Noun noun) {
            int hash = hashOf(noun);
            int twin = -1;
            for (int k = newest[hash]; k >= 0; k = at(k).next) {
                Kept old = at(k);
                if (isIdentical(old.noun, noun)) {
                    return k;
                }
                if (twin < 0 && isSame(old.noun, noun)) {
                    twin = old.twin;
                }
            }
            int number = all.size();
            if (twin < 0 && isSame(noun, noun)) {
                twin = number;
            }
            all.add(new Kept(copyOf(noun), boxDepthOf(noun), charactersOf(noun), twin, newest[hash]));
            newest[hash] = number;
            return number;
        }

        private static Noun copyOf(Noun noun) {
            Noun copy = new Noun(noun.count);
            copy.start(noun.sort);
            copy.addAxesOf(noun, 0);
            copy.copyCells(noun, 0, 0, noun.count);
            return copy;
        }

        /** Nouns that are the same for comparing have the same hash, too. */
        private int hashOf(Noun noun) {
            long mix = noun.axes;
            for (int k = 0; k < noun.axes; k++) {
                mix = mix * 31 + noun.lengths[k];
            }
            for (int k = 0; k < noun.count; k++) {
                long cell = noun.cells[k];
                long plain = noun.sort == 'i' ? cell : noun.sort == 'f' ? numbers.plain(cell) : at(cell).twin;
                mix = mix * 1000003 + plain;
                mix ^= mix >>> 29;
            }
            return (int) ((mix ^ (mix >>> 17)) & (HASHES - 1));
        }

        int boxDepthOf(Noun noun) {
            int deepest = 0;
            if (noun.sort == 'x') {
                for (int k = 0; k < noun.count; k++) {
                    deepest = Math.max(deepest, 1 + at(noun.cells[k]).boxDepth);
                }
            }
            return deepest;
        }

        boolean isIdentical(Noun one, Noun other) {
            if (one.sort != other.sort || !hasSameShape(one, other)) {
                return false;
            }
            for (int k = 0; k < one.count; k++) {
                if (one.cells[k] != other.cells[k]) {
                    return false;
                }
            }
            return true;
        }

        /** As "i" finds nouns the same: kinds aside, numbers as doubles. */
        boolean isSame(Noun one, Noun other) {
            return hasSameShape(one, other) && areSameCells(one, 0, other, 0, one.count);
        }

        private static boolean hasSameShape(Noun one, Noun other) {
            if (one.axes != other.axes) {
                return false;
            }
            for (int k = 0; k < one.axes; k++) {
                if (one.lengths[k] != other.lengths[k]) {
                    return false;
                }
            }
            return true;
        }

        boolean areSameCells(Noun one, int oneFrom, Noun other, int otherFrom, int cellCount) {
            for (int k = 0; k < cellCount; k++) {
                if (!isSameCell(one.sort, one.cells[oneFrom + k], other.sort, other.cells[otherFrom + k])) {
                    return false;
                }
            }
            return true;
        }

        private boolean isSameCell(char oneSort, long one, char otherSort, long other) {
            if (oneSort == 'x' || otherSort == 'x') {
                int twin = at(one).twin;
                return oneSort == otherSort && twin >= 0 && twin == at(other).twin;
            }
            return numbers.isEqual(oneSort, one, otherSort, other);
        }

        // How nouns are shown.

        private long charactersOf(Noun noun) {
            long length = shapeCharacters(noun);
            if (noun.sort == 'x') {
                if (noun.axes == 0) {
                    return 1 + at(noun.cells[0]).characters;
                }
                if (noun.count == 0) {
                    return length + EMPTY_BOXES.length();
                }
                for (int k = 0; k < noun.count; k++) {
                    length += boxCharacters(noun.cells[k]) + (k > 0 ? 1 : 0);
                }
                return length;
            }
            for (int k = 0; k < numbersShown(noun); k++) {
                length += Numbers.charactersOf(noun.sort, cellShown(noun, k)) + (k > 0 ? 1 : 0);
            }
            return length;
        }

        private long boxCharacters(long content) {
            return 3 + at(content).characters;
        }

        /** An array of numbers without cells shows one zero. */
        private static int numbersShown(Noun noun) {
            return Math.max(1, noun.count);
        }

        private static long cellShown(Noun noun, int index) {
            return index < noun.count ? noun.cells[index] : 0;
        }

        /** The number of characters of the shape and the "$" behind it; some nouns are shown without. */
        private static int shapeCharacters(Noun noun) {
            boolean isPlainList = noun.axes == 1 && noun.count > 1 && noun.sort != 'x';
            if (noun.axes == 0 || isPlainList) {
                return 0;
            }
            int length = 0;
            for (int k = 0; k < noun.axes; k++) {
                length += Numbers.charactersOf('i', noun.lengths[k]) + 1;
            }
            return length;
        }

        char characterAt(int number, long index) {
            Noun noun = at(number).noun;
            long rest = index;
            for (int depth = 0; depth <= MOST_BOX_DEPTH; depth++) {
                long ahead = shapeCharacters(noun);
                if (rest < ahead) {
                    return shapeCharacterAt(noun, rest);
                }
                rest -= ahead;
                if (noun.sort != 'x') {
                    return numberCharacterAt(noun, rest);
                }
                if (noun.axes > 0 && noun.count == 0) {
                    return rest < EMPTY_BOXES.length() ? EMPTY_BOXES.charAt((int) rest) : ' ';
                }
                int box = 0;
                while (noun.axes > 0 && box < noun.count - 1 && rest > boxCharacters(noun.cells[box])) {
                    rest -= boxCharacters(noun.cells[box]) + 1;
                    box++;
                }
                char around = aroundBox(noun, box, rest);
                if (around != ' ') {
                    return around;
                }
                rest -= noun.axes == 0 ? 1 : 2;
                noun = inBox(noun.cells[box]);
            }
            return ' ';
        }

        /** The character at a place that is not of what is in the box, or ' '. */
        private char aroundBox(Noun noun, int box, long place) {
            if (noun.axes == 0) {
                return place == 0 ? '<' : ' ';
            }
            long length = boxCharacters(noun.cells[box]);
            if (place < 2) {
                return place == 0 ? '(' : '<';
            }
            return place == length - 1 ? ')' : place >= length ? ',' : ' ';
        }

        private static char shapeCharacterAt(Noun noun, long index) {
            long rest = index;
            for (int k = 0; k < noun.axes; k++) {
                int length = Numbers.charactersOf('i', noun.lengths[k]);
                if (rest < length) {
                    return Numbers.characterAt('i', noun.lengths[k], (int) rest);
                }
                if (rest == length) {
                    return k < noun.axes - 1 ? ' ' : '$';
                }
                rest -= length + 1;
            }
            return ' ';
        }

        private static char numberCharacterAt(Noun noun, long index) {
            long rest = index;
            for (int k = 0; k < numbersShown(noun); k++) {
                long cell = cellShown(noun, k);
                int length = Numbers.charactersOf(noun.sort, cell);
                if (rest < length) {
                    return Numbers.characterAt(noun.sort, cell, (int) rest);
                }
                if (rest == length) {
                    return ' ';
                }
                rest -= length + 1;
            }
            return ' ';
        }
    }

    /** What a line has on the go: the nouns that it made and may drop again, what it took and what went wrong. */
    private static final class Bench {
        /** Names can repeat verbs that cost nothing for ages; no line that anyone waits for comes near this. */
        private static final int MOST_STEPS = 1000000;

        private final ArrayList<Noun> nouns = new ArrayList<Noun>();
        private int used;
        private int steps;
        long paid;
        int applied;
        int specialTimes;
        char wrong = ' ';
        int wrongWord;

        void clear() {
            used = 0;
            steps = 0;
            paid = 0;
            applied = 0;
            specialTimes = 0;
        }

        /** Ends the line with an error if something does not hold. */
        void demand(boolean holds, char newWrong, int word) {
            if (!holds) {
                wrong = newWrong;
                wrongWord = word;
                throw new IllegalStateException("the line ends with an error");
            }
        }

        void enter(int word, int depth) {
            steps++;
            demand(depth <= MOST_DEPTH && steps <= MOST_STEPS, 'm', word);
        }

        void countApplication(int word) {
            applied++;
            demand(applied <= MOST_APPLICATIONS, 'm', word);
        }

        /** A noun without axes; its axes are to be added, and then it is to be sealed. */
        Noun blank(char sort) {
            if (used >= nouns.size()) {
                Noun added = new Noun(MOST_CELLS);
                added.place = nouns.size();
                nouns.add(added);
            }
            Noun noun = nouns.get(Math.min(used, nouns.size() - 1));
            used++;
            noun.start(sort);
            return noun;
        }

        /** Fills a noun that has all its axes with zeros, or ends the line if it is too large. */
        void seal(Noun noun, int word) {
            demand(!noun.isTooLarge && noun.count <= MOST_CELLS, 'm', word);
            for (int k = 0; k < noun.count && k < noun.cells.length; k++) {
                noun.cells[k] = 0;
            }
        }

        Noun sealed(char sort, long length, int word) {
            Noun list = blank(sort);
            list.addAxis(length);
            seal(list, word);
            return list;
        }

        Noun atom(char sort, long cell) {
            Noun noun = blank(sort);
            noun.cells[0] = cell;
            return noun;
        }

        /** Zeros in the shape of so many items of a noun. */
        Noun zeroItems(Noun noun, long items, int word) {
            Noun list = blank(noun.sort);
            list.addAxis(items);
            list.addAxesOf(noun, 1);
            seal(list, word);
            return list;
        }

        /** So many items of a noun from one on, as far as it has them. */
        Noun someItems(Noun noun, int from, int items, int word) {
            Noun list = zeroItems(noun, items, word);
            list.copyCells(noun, from * noun.itemCells(), 0, items * noun.itemCells());
            return list;
        }

        Noun item(Noun noun, int index, int word) {
            if (noun.axes == 0) {
                return noun;
            }
            Noun item = blank(noun.sort);
            item.addAxesOf(noun, 1);
            seal(item, word);
            item.copyCells(noun, index * item.count, 0, item.count);
            return item;
        }

        int mark() {
            return used;
        }

        /** Drops all nouns that were made since the mark, but for one. */
        void release(int mark, Noun result) {
            used = mark;
            if (result.place >= mark && mark < nouns.size() && result.place < nouns.size()) {
                Noun other = nouns.get(mark);
                nouns.set(result.place, other);
                other.place = result.place;
                nouns.set(mark, result);
                result.place = mark;
                used = mark + 1;
            }
        }
    }

    /** Arithmetic on single cells; doubles are kept as their bits, so that what is no number is never computed with. */
    private static final class Numbers {
        private static final long NO_NUMBER = 0x7FF8000000000000L;
        private static final long INFINITE = 0x7FF0000000000000L;
        private static final long MINUS = 0x8000000000000000L;
        private static final long MAGNITUDE = 0x7FFFFFFFFFFFFFFFL;
        private static final long FRACTION = 0x000FFFFFFFFFFFFFL;
        private static final long UNIT = 0x0010000000000000L;
        private static final long ONE = 0x3FF0000000000000L;
        private static final int POWERS = 10;

        /** The powers of two whose exponents are 1, 2, 4 and so on. */
        private final double[] powers = new double[POWERS];
        /** The kind of the last result. */
        char sort = 'i';

        Numbers() {
            double power = 2.0;
            for (int k = 0; k < POWERS; k++) {
                powers[k] = power;
                power = k < POWERS - 1 ? power * power : power;
            }
        }

        long one(char sign, char ySort, long y) {
            if (sign == '*') {
                sort = 'i';
                return ySort == 'i' ? compared(y, 0) : isLess(0, y) ? 1 : isLess(y, 0) ? -1 : 0;
            }
            if (sign == '%') {
                return inDoubles('%', ONE, bitsOf(ySort, y));
            }
            if (ySort == 'i') {
                return inRange(sign == '-' ? -y : sign == '|' ? Math.abs(y) : y);
            }
            sort = 'f';
            return sign == '-' ? negated(y) : sign == '|' ? y & MAGNITUDE : y;
        }

        long two(char sign, char xSort, long x, char ySort, long y) {
            if (xSort == 'i' && ySort == 'i' && sign != '%') {
                return inWholes(sign, x, y);
            }
            return inDoubles(sign, bitsOf(xSort, x), bitsOf(ySort, y));
        }

        private long inWholes(char sign, long x, long y) {
            switch (sign) {
                case '+':
                    return inRange(x + y);
                case '-':
                    return inRange(x - y);
                case '*':
                    return inRange(x * y);
                case '|':
                    return inRange(x == 0 ? y : Math.floorMod(y, x));
                case '<':
                    return truth(x < y);
                case '>':
                    return truth(x > y);
                case '=':
                    return truth(x == y);
                default:
                    return truth(x != y);
            }
        }

        private long inDoubles(char sign, long x, long y) {
            sort = 'f';
            switch (sign) {
                case '+':
                    return sum(x, y);
                case '-':
                    return sum(x, negated(y));
                case '*':
                    return product(x, y);
                case '%':
                    return quotient(x, y);
                case '|':
                    return isZero(x) ? y : sum(y, negated(product(x, floor(quotient(y, x)))));
                case '<':
                    return truth(isLess(x, y));
                case '>':
                    return truth(isLess(y, x));
                case '=':
                    return truth(areEqual(x, y));
                default:
                    return truth(!areEqual(x, y));
            }
        }

        private long truth(boolean holds) {
            sort = 'i';
            return holds ? 1 : 0;
        }

        private long inRange(long whole) {
            boolean isIn = whole >= LEAST_WHOLE && whole <= MOST_WHOLE;
            sort = isIn ? 'i' : 'f';
            return isIn ? whole : bitsOfWhole(whole);
        }

        private static int compared(long x, long y) {
            return x < y ? -1 : x > y ? 1 : 0;
        }

        boolean isEqual(char xSort, long x, char ySort, long y) {
            if (xSort == 'i' && ySort == 'i') {
                return x == y;
            }
            return areEqual(bitsOf(xSort, x), bitsOf(ySort, y));
        }

        /** The order of Double.compare, which puts -0 ahead of 0 and what is no number last. */
        int order(char sameSort, long x, long y) {
            return sameSort == 'i' ? compared(x, y) : compared(orderKey(x), orderKey(y));
        }

        private static long orderKey(long bits) {
            return bits < 0 ? bits ^ MAGNITUDE : bits;
        }

        long bitsOf(char cellSort, long cell) {
            return cellSort == 'f' ? cell : bitsOfWhole(cell);
        }

        /** One number for all cells that are equal as numbers, though some others have it, too. */
        long plain(long bits) {
            if (isZero(bits)) {
                return 0;
            }
            int power = exponentOf(bits) - 1023;
            long fraction = (bits & FRACTION) | UNIT;
            boolean isWhole = power >= 0 && power <= 31 && (fraction & ((UNIT >>> power) - 1)) == 0;
            if (!isWhole) {
                return bits;
            }
            long size = fraction >>> (52 - power);
            return bits < 0 ? -size : size;
        }

        /** The bits as Double.doubleToLongBits tells them. */
        static long canonical(long bits) {
            return isNoNumber(bits) ? NO_NUMBER : bits;
        }

        private static boolean isNoNumber(long bits) {
            return (bits & MAGNITUDE) > INFINITE;
        }

        private static boolean isInfinite(long bits) {
            return (bits & MAGNITUDE) == INFINITE;
        }

        private static boolean isZero(long bits) {
            return (bits & MAGNITUDE) == 0;
        }

        private static int exponentOf(long bits) {
            return (int) ((bits >>> 52) & 2047);
        }

        private static long negated(long bits) {
            return isNoNumber(bits) ? bits : bits ^ MINUS;
        }

        private static boolean areEqual(long x, long y) {
            return !isNoNumber(x) && (x == y || isZero(x) && isZero(y));
        }

        private static boolean isLess(long x, long y) {
            boolean areNumbers = !isNoNumber(x) && !isNoNumber(y);
            return areNumbers && !areEqual(x, y) && orderKey(x) < orderKey(y);
        }

        private long sum(long x, long y) {
            if (isNoNumber(x) || isNoNumber(y) || isInfinite(x) && isInfinite(y) && x != y) {
                return NO_NUMBER;
            }
            if (isInfinite(x) || isInfinite(y)) {
                return isInfinite(x) ? x : y;
            }
            return bitsOfDouble(valueOf(x) + valueOf(y), x & y & MINUS);
        }

        private long product(long x, long y) {
            boolean isOpen = isInfinite(x) && isZero(y) || isZero(x) && isInfinite(y);
            if (isNoNumber(x) || isNoNumber(y) || isOpen) {
                return NO_NUMBER;
            }
            if (isInfinite(x) || isInfinite(y)) {
                return INFINITE | ((x ^ y) & MINUS);
            }
            return bitsOfDouble(valueOf(x) * valueOf(y), (x ^ y) & MINUS);
        }

        private long quotient(long x, long y) {
            boolean isOpen = isInfinite(x) && isInfinite(y) || isZero(x) && isZero(y);
            if (isNoNumber(x) || isNoNumber(y) || isOpen) {
                return NO_NUMBER;
            }
            if (isInfinite(x) || isZero(y)) {
                return INFINITE | ((x ^ y) & MINUS);
            }
            if (isInfinite(y)) {
                return (x ^ y) & MINUS;
            }
            return bitsOfDouble(valueOf(x) / valueOf(y), (x ^ y) & MINUS);
        }

        /** As Math.floor: the fraction's bits are cut off, one unit further from zero below it. */
        private static long floor(long bits) {
            int power = exponentOf(bits) - 1023;
            if (power >= 52 || isZero(bits)) {
                return bits;
            }
            if (power < 0) {
                return bits < 0 ? MINUS | ONE : 0;
            }
            long behindPoint = (UNIT >>> power) - 1;
            if ((bits & behindPoint) == 0) {
                return bits;
            }
            return (bits < 0 ? bits + behindPoint : bits) & ~behindPoint;
        }

        private long bitsOfWhole(long whole) {
            long size = Math.abs(whole);
            if (size >= 2 * UNIT) {
                return bitsOfDouble((double) whole, 0);
            }
            if (size == 0) {
                return 0;
            }
            int power = 63 - Long.numberOfLeadingZeros(size);
            long bits = ((long) (power + 1023) << 52) | ((size << (52 - power)) & FRACTION);
            return whole < 0 ? bits | MINUS : bits;
        }

        /** The double of bits that are those of a finite one. */
        private double valueOf(long bits) {
            int exponent = exponentOf(bits);
            double size = (double) (exponent == 0 ? bits & FRACTION : (bits & FRACTION) | UNIT);
            int power = Math.max(1, exponent) - 1075;
            if (power < -1000) {
                size = size / 18446744073709551616.0;
                power += 64;
            }
            int steps = Math.abs(power);
            for (int k = 0; k < POWERS; k++) {
                if (((steps >> k) & 1) == 1) {
                    size = power > 0 ? size * powers[k] : size / powers[k];
                }
            }
            return bits < 0 ? -size : size;
        }

        /** The bits of a double, or those of a zero that are told. */
        private long bitsOfDouble(double value, long zero) {
            if (value == 0.0) {
                return zero;
            }
            long minus = value < 0.0 ? MINUS : 0;
            double size = value < 0.0 ? -value : value;
            if (size > 1.7976931348623157E308) {
                return minus | INFINITE;
            }
            int power = 0;
            if (size < 1.0E-200) {
                size = size * powers[POWERS - 1];
                power = -512;
            }
            boolean isLarge = size >= 9007199254740992.0;
            for (int k = POWERS - 1; k >= 0; k--) {
                if (isLarge && size / powers[k] >= 4503599627370496.0) {
                    size = size / powers[k];
                    power += 1 << k;
                } else if (!isLarge && size * powers[k] < 9007199254740992.0) {
                    size = size * powers[k];
                    power -= 1 << k;
                }
            }
            long unit = (long) size;
            int exponent = power + 1075;
            if (exponent < 1) {
                return minus | (unit >>> Math.min(63, 1 - exponent));
            }
            return minus | ((long) exponent << 52) | (unit & FRACTION);
        }

        // How numbers are shown.

        static int charactersOf(char cellSort, long cell) {
            if (cellSort == 'f') {
                return 17;
            }
            int length = cell < 0 ? 2 : 1;
            for (long rest = Math.abs(cell) / 10; rest > 0; rest /= 10) {
                length++;
            }
            return length;
        }

        static char characterAt(char cellSort, long cell, int index) {
            if (index == 0 && (cellSort == 'f' || cell < 0)) {
                return cellSort == 'f' ? '#' : '_';
            }
            if (cellSort == 'f') {
                int digit = (int) ((cell >>> (4 * (16 - index))) & 15);
                return (char) (digit < 10 ? '0' + digit : 'a' + digit - 10);
            }
            long rest = Math.abs(cell);
            for (int k = charactersOf(cellSort, cell) - 1; k > index; k--) {
                rest /= 10;
            }
            return (char) ('0' + rest % 10);
        }
    }

    /** A verb of one character, of a name, or made by an adverb, a conjunction or a train. */
    private static final class Verb {
        static final char SIGN = 's';
        static final char NAME = 'n';
        static final char INSERT = '/';
        static final char WINDOWS = '\\';
        static final char SWAP = '~';
        static final char ATOP = '@';
        static final char BOTH = '&';
        static final char NOUN_LEFT = 'l';
        static final char NOUN_RIGHT = 'r';
        static final char RANKED = '"';
        static final char POWER = '^';
        static final char UNDER = 'U';
        static final char FORK = 'f';
        static final char NOUN_FORK = 'g';
        static final char HOOK = 'h';

        final char form;
        /** The character of a verb of one character or of a name. */
        final char sign;
        final int word;
        Verb left;
        Verb middle;
        Verb right;
        /** The number in the store of the noun in it. */
        int noun = Store.EMPTY_LIST;
        int times;
        int rankOfOne = MOST_AXES;
        int rankOfLeft = MOST_AXES;
        int rankOfRight = MOST_AXES;

        Verb(char form, char sign, int word) {
            this.form = form;
            this.sign = sign;
            this.word = word;
        }

        boolean isSign(char wanted) {
            return form == SIGN && sign == wanted;
        }

        /** The verb beside the noun of one that has a noun. */
        Verb besideNoun() {
            return form == NOUN_LEFT ? right : left;
        }

        /** The rank of the cells for a rank of a verb, where a rank less than 0 leaves so many axes out. */
        static int cellRank(int rank, Noun argument) {
            return rank < 0 ? Math.max(0, argument.axes + rank) : Math.min(rank, argument.axes);
        }
    }

    /** The cells of a verb's arguments and the results for them; there is one for each depth. */
    private static final class Level {
        private static final int WHOLES = 1;
        private static final int DOUBLES = 2;
        private static final int BOXES = 4;

        /** What is applied to the cells: a verb or its inverse, or a verb of one character. */
        Verb verb;
        boolean isBack;
        char sign;
        int word;
        /** How many times it is applied; 0 for a frame without cells. */
        int frameCells;
        private final int[] frame = new int[MOST_AXES];
        private int frameAxes;
        private Noun x;
        private Noun y;
        private int xRank;
        private int yRank;
        private int xStep;
        private int yStep;

        private final Noun[] results = new Noun[MOST_CELLS];
        private int resultCount;
        /** The sum of WHOLES, DOUBLES and BOXES, of those that there are. */
        private int resultSorts;
        private int leastRank;
        private int greatestRank;
        /** The greatest length of each axis, from the last axis on. */
        private final int[] greatest = new int[MOST_AXES];

        void applySign(char newSign, int newWord) {
            verb = null;
            isBack = false;
            sign = newSign;
            word = newWord;
        }

        void applyVerb(Verb newVerb, boolean newIsBack, int newWord) {
            verb = newVerb;
            isBack = newIsBack;
            sign = ' ';
            word = newWord;
        }

        /** Splits arguments into cells of these ranks; answers whether their frames fit. */
        boolean split(Noun newX, Noun newY, int newXRank, int newYRank) {
            x = newX;
            y = newY;
            xRank = newXRank;
            yRank = newYRank;
            int xFrame = x == null ? 0 : x.axes - xRank;
            int yFrame = y.axes - yRank;
            Noun longer = x != null && xFrame > yFrame ? x : y;
            frameAxes = Math.min(MOST_AXES, Math.max(xFrame, yFrame));
            frameCells = 1;
            xStep = 1;
            yStep = 1;
            for (int k = 0; k < frameAxes; k++) {
                frame[k] = longer.lengths[k];
                frameCells *= frame[k];
                xStep *= k < xFrame ? 1 : frame[k];
                yStep *= k < yFrame ? 1 : frame[k];
                if (x != null && k < xFrame && k < yFrame && x.lengths[k] != y.lengths[k]) {
                    return false;
                }
            }
            return true;
        }

        boolean hasFrame() {
            return frameAxes > 0;
        }

        /** A frame of one axis, as for the lists of items. */
        void frameOf(int length) {
            frameAxes = 1;
            frame[0] = length;
            frameCells = length;
        }

        Noun xCell(Bench bench, int index) {
            return x == null ? null : cellOf(bench, x, xRank, xStep > 0 ? index / xStep : 0);
        }

        Noun yCell(Bench bench, int index) {
            return cellOf(bench, y, yRank, yStep > 0 ? index / yStep : 0);
        }

        private Noun cellOf(Bench bench, Noun whole, int rank, int index) {
            if (rank >= whole.axes) {
                return whole;
            }
            Noun cell = zeroCell(bench, whole, rank);
            cell.copyCells(whole, index * cell.count, 0, cell.count);
            return cell;
        }

        Noun zeroXCell(Bench bench) {
            return x == null ? null : zeroCell(bench, x, xRank);
        }

        Noun zeroYCell(Bench bench) {
            return zeroCell(bench, y, yRank);
        }

        private Noun zeroCell(Bench bench, Noun whole, int rank) {
            Noun cell = bench.blank(whole.sort);
            cell.addAxesOf(whole, whole.axes - rank);
            bench.seal(cell, word);
            return cell;
        }

        void dropResults() {
            resultCount = 0;
            resultSorts = 0;
            leastRank = MOST_AXES;
            greatestRank = 0;
            Arrays.fill(greatest, 0);
        }

        void addResult(Noun result) {
            // More results than cells can only make an array without cells, for which shapes are enough.
            if (resultCount < MOST_CELLS) {
                results[resultCount] = result;
            }
            resultCount++;
            resultSorts |= result.sort == 'x' ? BOXES : result.sort == 'f' ? DOUBLES : WHOLES;
            leastRank = Math.min(leastRank, result.axes);
            greatestRank = Math.max(greatestRank, result.axes);
            for (int k = 0; k < result.axes; k++) {
                greatest[k] = Math.max(greatest[k], result.lengths[result.axes - 1 - k]);
            }
        }

        /** The results side by side in the shape of the frame, filled up to the same shape. */
        Noun together(Bench bench, Numbers numbers) {
            bench.demand(resultSorts <= BOXES, 'd', word);
            Noun all = bench.blank(resultSorts == BOXES ? 'x' : resultSorts >= DOUBLES ? 'f' : 'i');
            for (int k = 0; k < frameAxes; k++) {
                all.addAxis(frame[k]);
            }
            int blockCells = 1;
            for (int k = greatestRank - 1; k >= 0; k--) {
                greatest[k] = k < leastRank ? greatest[k] : Math.max(1, greatest[k]);
                blockCells *= greatest[k];
                all.addAxis(greatest[k]);
            }
            bench.seal(all, word);
            for (int k = 0; all.count > 0 && k < Math.min(resultCount, MOST_CELLS); k++) {
                place(results[k], all, k * blockCells, numbers);
            }
            return all;
        }

        private void place(Noun result, Noun all, int from, Numbers numbers) {
            for (int cell = 0; cell < result.count; cell++) {
                int rest = cell;
                int to = from;
                int step = 1;
                for (int k = 0; k < result.axes; k++) {
                    int length = Math.max(1, result.lengths[result.axes - 1 - k]);
                    to += rest % length * step;
                    rest /= length;
                    step *= greatest[k];
                }
                long content = result.cells[cell];
                if (to < all.count) {
                    all.cells[to] = all.sort == 'f' ? numbers.bitsOf(result.sort, content) : content;
                }
            }
        }
    }

    /** The verbs of one character, behind ranks. */
    private static final class Signs {
        private static final String ZERO_RANKS_OF_ONE = "+-*%|=>";
        private static final String ZERO_RANKS_OF_TWO = "+-*%|=<>n";

        private final Bench bench;
        private final Store store;
        private final Numbers numbers;
        private final int[] order = new int[MOST_CELLS];

        Signs(Bench bench, Store store, Numbers numbers) {
            this.bench = bench;
            this.store = store;
            this.numbers = numbers;
        }

        static int rankOfOne(char sign) {
            return ZERO_RANKS_OF_ONE.indexOf(sign) >= 0 ? 0 : sign == 'i' ? 1 : MOST_AXES;
        }

        static int rankOfLeft(char sign) {
            boolean isZero = sign == '{' || ZERO_RANKS_OF_TWO.indexOf(sign) >= 0;
            return isZero ? 0 : sign == '#' || sign == '$' ? 1 : MOST_AXES;
        }

        static int rankOfRight(char sign) {
            return ZERO_RANKS_OF_TWO.indexOf(sign) >= 0 ? 0 : MOST_AXES;
        }

        /** Whether all of its results are single numbers. */
        static boolean isNumeric(char sign, boolean hasX) {
            return hasX ? ZERO_RANKS_OF_TWO.indexOf(sign) >= 0 : sign != '>' && ZERO_RANKS_OF_ONE.indexOf(sign) >= 0;
        }

        /** One application; x is null if there is one argument. */
        Noun once(char sign, int word, Noun x, Noun y) {
            if (isNumeric(sign, x != null)) {
                return numericCells(sign, word, x, y);
            }
            bench.countApplication(word);
            Noun result = x == null ? one(sign, word, y) : two(sign, word, x, y);
            bench.paid += (x == null ? 0 : x.count) + y.count + result.count;
            return result;
        }

        /** An application to each cell, of arguments that have cells and whose frames fit. */
        Noun numericCells(char sign, int word, Noun x, Noun y) {
            Noun longer = x != null && x.axes > y.axes ? x : y;
            Noun result = bench.blank('i');
            result.addAxesOf(longer, 0);
            bench.seal(result, word);
            boolean isWrong = y.sort == 'x' || (x == null ? sign == '=' : x.sort == 'x');
            int xStep = x == null || x.count == 0 ? 1 : Math.max(1, result.count / x.count);
            int yStep = y.count == 0 ? 1 : Math.max(1, result.count / y.count);
            for (int k = 0; k < result.count; k++) {
                bench.countApplication(word);
                bench.demand(!isWrong, 'd', word);
                long yCell = y.cells[k / yStep];
                long cell = x == null ? numbers.one(sign, y.sort, yCell)
                    : numbers.two(sign, x.sort, x.cells[k / xStep], y.sort, yCell);
                putNumber(result, k, numbers.sort, cell);
                bench.paid += x == null ? 2 : 3;
            }
            return result;
        }

        /** One double makes all numbers of the result doubles. */
        private void putNumber(Noun result, int index, char sort, long cell) {
            if (sort == 'f' && result.sort == 'i') {
                result.sort = 'f';
                for (int k = 0; k < index; k++) {
                    result.cells[k] = numbers.bitsOf('i', result.cells[k]);
                }
            }
            result.cells[index] = result.sort == 'f' ? numbers.bitsOf(sort, cell) : cell;
        }

        private Noun one(char sign, int word, Noun y) {
            switch (sign) {
                case '<':
                    return boxed(y, word);
                case '>':
                    return y.sort == 'x' ? store.inBox(y.cells[0]) : y;
                case '#':
                    return bench.atom('i', y.items());
                case '$':
                    return lengthsOf(y, word);
                case ',':
                    return ravelled(y, word);
                case 'i':
                    return counted(y, word);
                case 'g':
                    return graded(y, word);
                case 'r':
                    return reversed(y, word);
                case 't':
                    return transposed(y, word);
                case 'n':
                    return different(y, word);
                case 'h':
                    return y.items() > 0 ? bench.item(y, 0, word) : zeroItem(y, word);
                case 'e':
                    return without(y, 1, word);
                case '[':
                case ']':
                    return y;
                default:
                    bench.demand(false, 'd', word);
                    return y;
            }
        }

        private Noun two(char sign, int word, Noun x, Noun y) {
            switch (sign) {
                case '#':
                    return copied(x, y, word);
                case '$':
                    return shaped(x, y, word);
                case ',':
                    return joined(x, y, word);
                case '{':
                    return taken(x, y, word);
                case 'i':
                    return found(x, y, word);
                case 'r':
                    return turned(y, oneWhole(x, word), word);
                case 'h':
                    return first(y, oneWhole(x, word), word);
                case 'e':
                    return without(y, oneWhole(x, word), word);
                case '[':
                    return x;
                case ']':
                    return y;
                default:
                    bench.demand(false, 'd', word);
                    return y;
            }
        }

        /** An argument that is to be one whole number. */
        private long oneWhole(Noun x, int word) {
            bench.demand(x.sort == 'i', 'd', word);
            bench.demand(x.axes == 0, 'r', word);
            return x.cells[0];
        }

        private void demandCounts(Noun x, int word) {
            bench.demand(x.sort == 'i', 'd', word);
            for (int k = 0; k < x.count; k++) {
                bench.demand(x.cells[k] >= 0, 'd', word);
            }
        }

        private Noun boxed(Noun y, int word) {
            bench.demand(store.boxDepthOf(y) < MOST_BOX_DEPTH, 'm', word);
            return bench.atom('x', store.keep(y));
        }

        private Noun lengthsOf(Noun y, int word) {
            Noun result = bench.sealed('i', y.axes, word);
            for (int k = 0; k < y.axes; k++) {
                result.cells[k] = y.lengths[k];
            }
            return result;
        }

        private Noun ravelled(Noun y, int word) {
            Noun result = bench.sealed(y.sort, y.count, word);
            result.copyCells(y, 0, 0, y.count);
            return result;
        }

        /** Zeros in the shape that the cells of a noun tell. */
        private Noun inShape(Noun shape, char sort, int word) {
            demandCounts(shape, word);
            Noun result = bench.blank(sort);
            for (int k = 0; k < shape.count; k++) {
                result.addAxis(shape.cells[k]);
            }
            bench.seal(result, word);
            return result;
        }

        private Noun counted(Noun y, int word) {
            Noun result = inShape(y, 'i', word);
            for (int k = 0; k < result.count; k++) {
                result.cells[k] = k;
            }
            return result;
        }

        private Noun shaped(Noun x, Noun y, int word) {
            Noun result = inShape(x, y.sort, word);
            bench.demand(y.count > 0 || result.count == 0, 'l', word);
            for (int k = 0; k < result.count && y.count > 0; k++) {
                result.cells[k] = y.cells[k % y.count];
            }
            return result;
        }

        private Noun graded(Noun y, int word) {
            bench.demand(y.sort != 'x', 'd', word);
            int items = y.items();
            Noun result = bench.sealed('i', items, word);
            for (int k = 0; k < items; k++) {
                int to = k;
                while (to > 0 && orderOfItems(y, order[to - 1], k) > 0) {
                    order[to] = order[to - 1];
                    to--;
                }
                order[to] = k;
            }
            for (int k = 0; k < items; k++) {
                result.cells[k] = order[k];
            }
            return result;
        }

        private int orderOfItems(Noun y, int one, int other) {
            int cells = y.itemCells();
            int found = 0;
            for (int k = 0; k < cells && found == 0 && y.count > 0; k++) {
                found = numbers.order(y.sort, y.cells[one * cells + k], y.cells[other * cells + k]);
            }
            return found;
        }

        private Noun reversed(Noun y, int word) {
            int items = y.items();
            int cells = y.itemCells();
            Noun result = bench.zeroItems(y, items, word);
            for (int k = 0; k < items; k++) {
                result.copyCells(y, (items - 1 - k) * cells, k * cells, cells);
            }
            return result;
        }

        private Noun turned(Noun y, long places, int word) {
            int items = y.items();
            int cells = y.itemCells();
            Noun result = bench.zeroItems(y, items, word);
            int ahead = items == 0 ? 0 : (int) Math.floorMod(places, (long) items);
            result.copyCells(y, ahead * cells, 0, (items - ahead) * cells);
            result.copyCells(y, 0, (items - ahead) * cells, ahead * cells);
            return result;
        }

        private Noun transposed(Noun y, int word) {
            Noun result = bench.blank(y.sort);
            for (int k = y.axes - 1; k >= 0; k--) {
                result.addAxis(y.lengths[k]);
            }
            bench.seal(result, word);
            for (int cell = 0; cell < y.count; cell++) {
                int rest = cell;
                int to = 0;
                for (int k = y.axes - 1; k >= 0; k--) {
                    int length = Math.max(1, y.lengths[k]);
                    to = to * length + rest % length;
                    rest /= length;
                }
                result.cells[Math.min(to, MOST_CELLS - 1)] = y.cells[cell];
            }
            return result;
        }

        private Noun different(Noun y, int word) {
            int items = y.items();
            int cells = y.itemCells();
            int kept = 0;
            for (int k = 0; k < items; k++) {
                boolean isNew = true;
                for (int before = 0; before < kept && isNew; before++) {
                    isNew = !areSameItems(y, order[before], k, cells);
                }
                if (isNew) {
                    order[kept] = k;
                    kept++;
                }
            }
            Noun result = bench.zeroItems(y, kept, word);
            for (int k = 0; k < kept; k++) {
                result.copyCells(y, order[k] * cells, k * cells, cells);
            }
            return result;
        }

        private boolean areSameItems(Noun y, int one, int other, int cells) {
            return y.count == 0 || store.areSameCells(y, one * cells, y, other * cells, cells);
        }

        private Noun zeroItem(Noun y, int word) {
            Noun item = bench.blank(y.sort);
            item.addAxesOf(y, 1);
            bench.seal(item, word);
            return item;
        }

        /** The first items, or the last ones for a number less than 0, filled up with zeros. */
        private Noun first(Noun y, long number, int word) {
            int cells = y.itemCells();
            int items = y.items();
            Noun result = bench.zeroItems(y, Math.abs(number), word);
            int wanted = (int) Math.min(Math.abs(number), MOST_CELLS);
            int some = Math.min(wanted, items);
            int from = number < 0 ? items - some : 0;
            int to = number < 0 ? wanted - some : 0;
            result.copyCells(y, from * cells, to * cells, some * cells);
            return result;
        }

        /** All items but the first ones, or but the last ones for a number less than 0. */
        private Noun without(Noun y, long number, int word) {
            int items = y.items();
            int dropped = (int) Math.min(Math.abs(number), items);
            return bench.someItems(y, number < 0 ? 0 : dropped, items - dropped, word);
        }

        private Noun copied(Noun x, Noun y, int word) {
            demandCounts(x, word);
            int items = y.items();
            int cells = y.itemCells();
            bench.demand(x.axes == 0 || x.count == items, 'l', word);
            long total = 0;
            for (int k = 0; k < items; k++) {
                total += x.cells[x.axes == 0 ? 0 : k];
            }
            Noun result = bench.zeroItems(y, total, word);
            int to = 0;
            for (int k = 0; k < items; k++) {
                long times = x.cells[x.axes == 0 ? 0 : k];
                for (int copy = 0; copy < Math.min(times, MOST_CELLS); copy++) {
                    result.copyCells(y, k * cells, to * cells, cells);
                    to++;
                }
            }
            return result;
        }

        private Noun joined(Noun x, Noun y, int word) {
            bench.demand((x.sort == 'x') == (y.sort == 'x'), 'd', word);
            Noun model = x.axes > y.axes ? x : y;
            int rank = Math.max(1, model.axes);
            bench.demand(canJoin(x, rank) && canJoin(y, rank), 'r', word);
            bench.demand(hasItemsOf(x, model, rank) && hasItemsOf(y, model, rank), 'l', word);
            Noun result = bench.blank(x.sort == y.sort ? x.sort : 'f');
            int xItems = x.axes == rank ? x.lengths[0] : 1;
            int yItems = y.axes == rank ? y.lengths[0] : 1;
            result.addAxis(xItems + yItems);
            result.addAxesOf(model, 1);
            bench.seal(result, word);
            int cells = model.itemCells();
            appendCells(result, 0, x, xItems * cells);
            appendCells(result, xItems * cells, y, yItems * cells);
            return result;
        }

        private static boolean canJoin(Noun noun, int rank) {
            return noun.axes == 0 || noun.axes >= rank - 1;
        }

        /** Whether a noun is or has items of the shape of the model's ones. */
        private static boolean hasItemsOf(Noun noun, Noun model, int rank) {
            int from = noun.axes == rank ? 1 : 0;
            for (int k = from; k < noun.axes; k++) {
                if (noun.lengths[k] != model.lengths[Math.min(MOST_AXES - 1, k - from + 1)]) {
                    return false;
                }
            }
            return true;
        }

        /** A noun without axes is repeated as often as it must be. */
        private void appendCells(Noun result, int from, Noun noun, int cells) {
            for (int k = 0; k < cells && from + k < result.count; k++) {
                long cell = noun.cells[noun.axes == 0 ? 0 : k];
                result.cells[from + k] = result.sort == 'f' ? numbers.bitsOf(noun.sort, cell) : cell;
            }
        }

        private Noun taken(Noun x, Noun y, int word) {
            bench.demand(x.sort == 'i', 'd', word);
            int items = y.items();
            long index = x.cells[0] < 0 ? x.cells[0] + items : x.cells[0];
            bench.demand(index >= 0 && index < items, 'x', word);
            return bench.item(y, (int) index, word);
        }

        private Noun found(Noun x, Noun y, int word) {
            int itemRank = Math.max(0, x.axes - 1);
            int frameAxes = Math.max(0, y.axes - itemRank);
            Noun result = bench.blank('i');
            for (int k = 0; k < frameAxes; k++) {
                result.addAxis(y.lengths[k]);
            }
            bench.seal(result, word);
            boolean canBeSame = y.axes >= itemRank;
            for (int k = 0; k < itemRank && canBeSame; k++) {
                canBeSame = x.lengths[k + 1] == y.lengths[frameAxes + k];
            }
            int cells = x.itemCells();
            for (int k = 0; k < result.count; k++) {
                result.cells[k] = canBeSame ? placeOf(x, y, k * cells, cells) : x.items();
            }
            return result;
        }

        /** The first item of x that is the same as the cells of y from one on. */
        private int placeOf(Noun x, Noun y, int from, int cells) {
            int items = x.items();
            int place = 0;
            while (place < items && !store.areSameCells(x, place * cells, y, from, cells)) {
                place++;
            }
            return place;
        }
    }

    /** Applies verbs of all forms and their inverses, and knows what the names have. */
    private static final class Machine {
        private static final String WITH_INVERSE = "+-%rt[]<>";
        private static final String WITH_INVERSE_BESIDE_NOUN = "+-*%";
        private static final int SETTLED = 10;
        private static final int MOST_TRIES = 50;
        private static final int MOST_NAMES_BEHIND = 100;

        private final Bench bench;
        private final Store store;
        private final Numbers numbers;
        private final Signs signs;
        private final Level[] levels = new Level[MOST_DEPTH + 1];
        private final Verb[] nameVerbs = new Verb[NAMES];
        private final int[] nameNouns = new int[NAMES];
        boolean isSpecial = true;

        Machine(Bench bench, Store store, Numbers numbers) {
            this.bench = bench;
            this.store = store;
            this.numbers = numbers;
            signs = new Signs(bench, store, numbers);
            for (int k = 0; k < levels.length; k++) {
                levels[k] = new Level();
            }
            Arrays.fill(nameNouns, -1);
        }

        char hasOf(int name) {
            return nameVerbs[name] != null ? 'v' : nameNouns[name] >= 0 ? 'n' : '-';
        }

        void give(char name, Verb verb, Noun noun) {
            int index = name - 'A';
            if (index >= 0 && index < NAMES) {
                nameVerbs[index] = verb;
                nameNouns[index] = verb == null && noun != null ? store.keep(noun) : -1;
            }
        }

        /** The noun that a name has, or null. */
        Noun nounOf(char name) {
            int index = name - 'A';
            boolean isNoun = index >= 0 && index < NAMES && nameNouns[index] >= 0;
            return isNoun ? store.inBox(nameNouns[index]) : null;
        }

        private Verb verbOf(Verb name) {
            int index = name.sign - 'A';
            Verb verb = index >= 0 && index < NAMES ? nameVerbs[index] : null;
            bench.demand(verb != null, 'v', name.word);
            return verb;
        }

        /** Applies a verb, or its inverse if isBack; x is null if there is one argument. */
        private Noun apply(Verb verb, boolean isBack, Noun x, Noun y, int depth) {
            Verb applied = isBack ? behindNames(verb) : verb;
            if (applied.form == Verb.SIGN && depth > MOST_DEPTH) {
                bench.applied++;
            }
            bench.enter(wordOf(applied, isBack), depth);
            int mark = bench.mark();
            Noun result = isBack ? backResult(applied, y, depth) : result(applied, x, y, depth);
            bench.release(mark, result);
            return result;
        }

        /** A name has the inverse of what it has, and no depth of its own then. */
        private Verb behindNames(Verb verb) {
            Verb found = verb;
            for (int k = 0; k < MOST_NAMES_BEHIND && found.form == Verb.NAME; k++) {
                found = verbOf(found);
            }
            bench.demand(found.form != Verb.NAME, 'm', found.word);
            return found;
        }

        /** A verb that is made for an inverse is at the word of the verb beside the noun. */
        private static int wordOf(Verb verb, boolean isBack) {
            boolean isMade = isBack && (verb.form == Verb.NOUN_LEFT || verb.form == Verb.NOUN_RIGHT);
            return isMade && !isOwnInverse(verb) ? verb.besideNoun().word : verb.word;
        }

        private static boolean isOwnInverse(Verb verb) {
            return verb.form == Verb.NOUN_LEFT && (verb.right.isSign('-') || verb.right.isSign('%'));
        }

        private Noun result(Verb verb, Noun x, Noun y, int depth) {
            switch (verb.form) {
                case Verb.SIGN:
                    return signResult(verb.sign, verb.word, x, y, depth);
                case Verb.NAME:
                    return apply(verbOf(verb), false, x, y, depth + 1);
                case Verb.INSERT:
                    return x == null ? inserted(verb, y, depth) : overCells(tableLevel(verb, x, y, depth), depth);
                case Verb.WINDOWS:
                    return windows(verb, x, y, depth);
                case Verb.SWAP:
                    return apply(verb.left, false, y, x == null ? y : x, depth + 1);
                case Verb.ATOP:
                    return apply(verb.left, false, null, apply(verb.right, false, x, y, depth + 1), depth + 1);
                case Verb.BOTH:
                    return ofBoth(verb, x, y, depth);
                case Verb.NOUN_LEFT:
                case Verb.NOUN_RIGHT:
                    return besideNoun(verb, x, y, depth);
                case Verb.RANKED:
                    return overCells(rankedLevel(verb, false, x, y, depth), depth);
                case Verb.POWER:
                    return power(verb, verb.times, x, y, depth);
                case Verb.UNDER:
                    Noun changed = ofBoth(verb, x, y, depth);
                    demandInverse(verb.right, depth + 1);
                    return apply(verb.right, true, null, changed, depth + 1);
                default:
                    return train(verb, x, y, depth);
            }
        }

        /** What the inverse of a verb makes; demandInverse has seen that it has one. */
        private Noun backResult(Verb verb, Noun y, int depth) {
            switch (verb.form) {
                case Verb.SIGN:
                    char inverse = verb.sign == '<' ? '>' : verb.sign == '>' ? '<' : verb.sign;
                    return signResult(inverse, verb.word, null, y, depth);
                case Verb.ATOP:
                case Verb.BOTH:
                    return apply(verb.right, true, null, apply(verb.left, true, null, y, depth + 1), depth + 1);
                case Verb.RANKED:
                    return overCells(rankedLevel(verb, true, null, y, depth), depth);
                case Verb.POWER:
                    return power(verb, -verb.times, null, y, depth);
                default:
                    return besideNounBack(verb, y, depth);
            }
        }

        private Level levelAt(int depth) {
            return levels[Math.max(0, Math.min(depth, MOST_DEPTH))];
        }

        private Noun signResult(char sign, int word, Noun x, Noun y, int depth) {
            Level level = levelAt(depth);
            int xRank = x == null ? 0 : Verb.cellRank(Signs.rankOfLeft(sign), x);
            int yRank = Verb.cellRank(x == null ? Signs.rankOfOne(sign) : Signs.rankOfRight(sign), y);
            level.applySign(sign, word);
            bench.demand(level.split(x, y, xRank, yRank), 'l', word);
            if (level.frameCells > 0 && Signs.isNumeric(sign, x != null)) {
                return signs.numericCells(sign, word, x, y);
            }
            return overCells(level, depth);
        }

        private Level rankedLevel(Verb verb, boolean isBack, Noun x, Noun y, int depth) {
            Level level = levelAt(depth);
            int xRank = x == null ? 0 : Verb.cellRank(verb.rankOfLeft, x);
            int yRank = Verb.cellRank(x == null ? verb.rankOfOne : verb.rankOfRight, y);
            level.applyVerb(verb.left, isBack, verb.word);
            bench.demand(level.split(x, y, xRank, yRank), 'l', verb.word);
            return level;
        }

        private Level tableLevel(Verb verb, Noun x, Noun y, int depth) {
            Level level = levelAt(depth);
            Verb cells = verb.left;
            int rank = cells.form == Verb.SIGN ? Signs.rankOfLeft(cells.sign) : cells.rankOfLeft;
            level.applyVerb(cells, false, verb.word);
            bench.demand(level.split(x, y, Verb.cellRank(rank, x), y.axes), 'l', verb.word);
            return level;
        }

        /** Applies what the level tells to each cell. */
        private Noun overCells(Level level, int depth) {
            level.dropResults();
            if (level.frameCells == 0) {
                Noun zeroX = level.zeroXCell(bench);
                return overNoCells(level, zeroX, level.zeroYCell(bench), depth);
            }
            for (int k = 0; k < level.frameCells; k++) {
                int mark = bench.mark();
                Noun x = level.xCell(bench, k);
                Noun y = level.yCell(bench, k);
                Noun result = level.verb == null ? signs.once(level.sign, level.word, x, y)
                    : apply(level.verb, level.isBack, x, y, depth + 1);
                if (!level.hasFrame()) {
                    return result;
                }
                bench.release(mark, result);
                level.addResult(result);
            }
            return level.together(bench, numbers);
        }

        /** For a frame without cells, arguments of zeros tell the shape and the kind. */
        private Noun overNoCells(Level level, Noun x, Noun y, int depth) {
            level.dropResults();
            if (!isTried(level, x, y, depth)) {
                bench.demand(bench.wrong != 'm', 'm', bench.wrongWord);
                level.dropResults();
            }
            return level.together(bench, numbers);
        }

        private boolean isTried(Level level, Noun x, Noun y, int depth) {
            try {
                level.addResult(level.verb == null ? signs.once(level.sign, level.word, x, y)
                    : apply(level.verb, level.isBack, x, y, depth + 1));
                return true;
            } catch (IllegalStateException stopped) {
                return false;
            }
        }

        private Noun inserted(Verb verb, Noun y, int depth) {
            if (isKnown(verb, y)) {
                return special(verb.left.sign, y, verb.word, false);
            }
            int items = y.items();
            if (items == 0) {
                return insertedInNone(verb, y);
            }
            int mark = bench.mark();
            Noun result = bench.item(y, items - 1, verb.word);
            for (int k = items - 2; k >= 0; k--) {
                Noun item = bench.item(y, k, verb.word);
                result = apply(verb.left, false, item, result, depth + 1);
                bench.release(mark, result);
            }
            return result;
        }

        private Noun insertedInNone(Verb verb, Noun y) {
            boolean isProduct = verb.left.isSign('*');
            bench.demand(isProduct || verb.left.isSign('+'), 'd', verb.word);
            Noun result = bench.blank('i');
            result.addAxesOf(y, 1);
            bench.seal(result, verb.word);
            for (int k = 0; k < result.count; k++) {
                result.cells[k] = isProduct ? 1 : 0;
            }
            return result;
        }

        /** Whether special code is to do this insert, and no result of it, nor on the way, can be out of range. */
        private boolean isKnown(Verb insert, Noun y) {
            boolean isPhrase = insert.form == Verb.INSERT && (insert.left.isSign('+') || insert.left.isSign('*'));
            if (!isSpecial || !isPhrase || y.axes != 1 || y.sort != 'i' || y.count == 0) {
                return false;
            }
            boolean isProduct = insert.left.sign == '*';
            long most = isProduct ? 1 : 0;
            for (int k = 0; k < y.count && most <= MOST_WHOLE; k++) {
                long size = Math.abs(y.cells[k]);
                most = isProduct ? most * Math.max(1, size) : most + size;
            }
            return most <= MOST_WHOLE;
        }

        private Noun special(char sign, Noun y, int word, boolean isRunning) {
            bench.countApplication(word);
            bench.specialTimes++;
            bench.paid += 2L * y.count;
            Noun result = bench.blank('i');
            if (isRunning) {
                result.addAxis(y.count);
            }
            bench.seal(result, word);
            long total = sign == '*' ? 1 : 0;
            for (int k = 0; k < y.count; k++) {
                total = sign == '*' ? total * y.cells[k] : total + y.cells[k];
                result.cells[isRunning ? k : 0] = total;
            }
            return result;
        }

        private Noun windows(Verb verb, Noun x, Noun y, int depth) {
            if (x == null && isKnown(verb.left, y)) {
                return special(verb.left.left.sign, y, verb.word, true);
            }
            long width = x == null ? 0 : widthOf(x, verb.word);
            int items = y.items();
            int lists = x == null ? items : (int) Math.max(0, items - width + 1);
            Level level = levelAt(depth);
            level.applyVerb(verb.left, false, verb.word);
            level.frameOf(lists);
            if (lists == 0) {
                return overNoCells(level, null, bench.zeroItems(y, width, verb.word), depth);
            }
            level.dropResults();
            for (int k = 0; k < lists; k++) {
                int mark = bench.mark();
                Noun list = bench.someItems(y, x == null ? 0 : k, x == null ? k + 1 : (int) width, verb.word);
                Noun result = apply(verb.left, false, null, list, depth + 1);
                bench.release(mark, result);
                level.addResult(result);
            }
            return level.together(bench, numbers);
        }

        private long widthOf(Noun x, int word) {
            bench.demand(x.sort == 'i', 'd', word);
            bench.demand(x.axes == 0, 'r', word);
            bench.demand(x.cells[0] >= 1, 'd', word);
            return x.cells[0];
        }

        private Noun ofBoth(Verb verb, Noun x, Noun y, int depth) {
            Noun right = apply(verb.right, false, null, y, depth + 1);
            Noun left = x == null ? null : apply(verb.right, false, null, x, depth + 1);
            return apply(verb.left, false, left, right, depth + 1);
        }

        private Noun besideNoun(Verb verb, Noun x, Noun y, int depth) {
            bench.demand(x == null, 'd', verb.word);
            Noun noun = store.inBox(verb.noun);
            if (verb.form == Verb.NOUN_LEFT) {
                return apply(verb.right, false, noun, y, depth + 1);
            }
            return apply(verb.left, false, y, noun, depth + 1);
        }

        private Noun besideNounBack(Verb verb, Noun y, int depth) {
            if (isOwnInverse(verb)) {
                return besideNoun(verb, null, y, depth);
            }
            Verb sign = verb.besideNoun();
            char inverse = sign.isSign('+') ? '-' : sign.isSign('-') ? '+' : sign.isSign('*') ? '%' : '*';
            if (depth + 1 > MOST_DEPTH) {
                bench.applied++;
            }
            bench.enter(sign.word, depth + 1);
            return signResult(inverse, sign.word, y, store.inBox(verb.noun), depth + 1);
        }

        private Noun train(Verb verb, Noun x, Noun y, int depth) {
            if (verb.form == Verb.HOOK) {
                Noun changed = apply(verb.right, false, null, y, depth + 1);
                return apply(verb.left, false, x == null ? y : x, changed, depth + 1);
            }
            Noun right = apply(verb.right, false, x, y, depth + 1);
            Noun left = verb.form == Verb.NOUN_FORK ? store.inBox(verb.noun) : apply(verb.left, false, x, y, depth + 1);
            return apply(verb.middle, false, left, right, depth + 1);
        }

        private Noun power(Verb verb, int times, Noun x, Noun y, int depth) {
            boolean isBack = times < 0;
            if (isBack) {
                bench.demand(x == null, 'd', verb.word);
                demandInverse(verb.left, depth + 1);
            }
            int tries = times == SETTLED ? MOST_TRIES : Math.abs(times);
            boolean isSettled = times != SETTLED;
            boolean isStill = false;
            int mark = bench.mark();
            Noun result = y;
            for (int k = 0; k < tries && !isStill; k++) {
                int before = bench.applied;
                Noun next = apply(verb.left, isBack, x, result, depth + 1);
                if (times == SETTLED) {
                    isSettled = store.isSame(result, next);
                    isStill = isSettled;
                } else {
                    // What took nothing and changed nothing would go on like that; it could go on for ages.
                    isStill = bench.applied == before && store.isIdentical(result, next);
                }
                bench.release(mark, next);
                result = next;
            }
            bench.demand(isSettled, 'm', verb.word);
            return result;
        }

        /** Ends the line if a verb has no inverse; of u@v and u&v, u is looked at first. */
        private void demandInverse(Verb named, int depth) {
            Verb verb = behindNames(named);
            bench.demand(depth <= MOST_DEPTH, 'm', wordOf(verb, true));
            switch (verb.form) {
                case Verb.SIGN:
                    bench.demand(WITH_INVERSE.indexOf(verb.sign) >= 0, 'n', verb.word);
                    break;
                case Verb.NOUN_LEFT:
                case Verb.NOUN_RIGHT:
                    Verb beside = verb.besideNoun();
                    boolean isSign = beside.form == Verb.SIGN;
                    bench.demand(isSign && WITH_INVERSE_BESIDE_NOUN.indexOf(beside.sign) >= 0, 'n', verb.word);
                    break;
                case Verb.ATOP:
                case Verb.BOTH:
                    demandInverse(verb.left, depth + 1);
                    demandInverse(verb.right, depth + 1);
                    break;
                case Verb.RANKED:
                    demandInverse(verb.left, depth + 1);
                    break;
                default:
                    bench.demand(verb.form == Verb.POWER && verb.times != SETTLED, 'n', verb.word);
                    break;
            }
        }
    }

    /** The characters that are typed, and the words that they make. */
    private static final class Line {
        private static final String VERBS = "+-*%|=<>#$,{igrtnhe[]";
        private static final String ADVERBS = "/\\~";
        private static final String CONJUNCTIONS = "@&\"^U";
        private static final int BITS_LENGTH = 16;

        private final char[] characters = new char[LINE_ROOM];
        int typed;
        /** What each word is, as wordAt tells it. */
        final char[] sorts = new char[LINE_ROOM];
        private final int[] starts = new int[LINE_ROOM];
        private final int[] ends = new int[LINE_ROOM];
        /** The number of words ahead of the first one that is wrong. */
        int rightWords;
        boolean isWrong;

        boolean isFull() {
            return typed >= LINE_ROOM;
        }

        void add(char character) {
            if (typed < LINE_ROOM) {
                characters[typed] = character;
                typed++;
            }
        }

        void clear() {
            typed = 0;
        }

        private char at(int place) {
            return place >= 0 && place < typed ? characters[place] : ' ';
        }

        /** The first character of a word. */
        char signOf(int word) {
            return word >= 0 && word < rightWords ? at(starts[word]) : ' ';
        }

        void cut() {
            rightWords = 0;
            isWrong = false;
            int place = behindBlanks(0);
            while (place < typed && rightWords < LINE_ROOM && !isWrong) {
                boolean isNumber = isNumberAt(place);
                int end = isNumber ? endOfList(place) : place + 1;
                char sort = isNumber ? 'n' : sortOf(at(place));
                isWrong = end < 0 || sort == ' ';
                if (!isWrong) {
                    sorts[rightWords] = sort;
                    starts[rightWords] = place;
                    ends[rightWords] = end;
                    rightWords++;
                    place = behindBlanks(end);
                }
            }
        }

        private static char sortOf(char character) {
            if (VERBS.indexOf(character) >= 0) {
                return 'v';
            }
            if (ADVERBS.indexOf(character) >= 0) {
                return 'a';
            }
            if (CONJUNCTIONS.indexOf(character) >= 0) {
                return 'c';
            }
            if (character >= 'A' && character < 'A' + NAMES) {
                return 'w';
            }
            return character == ':' || character == '(' || character == ')' ? character : ' ';
        }

        private int behindBlanks(int from) {
            int place = from;
            while (place < typed && at(place) == ' ') {
                place++;
            }
            return place;
        }

        private static boolean isDigit(char character) {
            return character >= '0' && character <= '9';
        }

        private static int hexDigit(char character) {
            return isDigit(character) ? character - '0' : character >= 'a' && character <= 'f' ? character - 'a' + 10 : -1;
        }

        private boolean isNumberAt(int place) {
            char first = at(place);
            return isDigit(first) || first == '_' && isDigit(at(place + 1)) || first == '#' && hasBitsBehind(place);
        }

        private boolean hasBitsBehind(int place) {
            boolean hasBits = true;
            for (int k = 1; k <= BITS_LENGTH && hasBits; k++) {
                hasBits = hexDigit(at(place + k)) >= 0;
            }
            return hasBits;
        }

        /** The place behind the list of numbers that starts at a place, or -1 if the list is wrong. */
        private int endOfList(int from) {
            int end = from;
            int next = from;
            while (next < typed && isNumberAt(next)) {
                end = endOfNumber(next);
                if (end < 0 || isTail(at(end))) {
                    return -1;
                }
                next = behindBlanks(end);
            }
            return end;
        }

        /** Whether a character must not stand right behind a number. */
        private static boolean isTail(char character) {
            boolean isLetter = character >= 'a' && character <= 'z' || character >= 'A' && character <= 'Z';
            return isDigit(character) || isLetter || character == '_';
        }

        /** The place behind a number, or -1 if it is out of range. */
        private int endOfNumber(int from) {
            if (at(from) == '#') {
                return from + 1 + BITS_LENGTH;
            }
            boolean isNegative = at(from) == '_';
            long size = 0;
            int place = isNegative ? from + 1 : from;
            while (isDigit(at(place)) && size <= MOST_WHOLE + 1) {
                size = size * 10 + at(place) - '0';
                place++;
            }
            return size > (isNegative ? MOST_WHOLE + 1 : MOST_WHOLE) ? -1 : place;
        }

        private long valueAt(int from) {
            if (at(from) == '#') {
                long bits = 0;
                for (int k = 1; k <= BITS_LENGTH; k++) {
                    bits = bits << 4 | hexDigit(at(from + k));
                }
                return Numbers.canonical(bits);
            }
            boolean isNegative = at(from) == '_';
            long size = 0;
            for (int place = isNegative ? from + 1 : from; isDigit(at(place)); place++) {
                size = size * 10 + at(place) - '0';
            }
            return isNegative ? -size : size;
        }

        private int nextNumber(int from) {
            return behindBlanks(Math.max(from + 1, endOfNumber(from)));
        }

        /** The noun that a word of numbers is. */
        Noun nounOf(int word, Bench bench, Numbers numbers) {
            int start = word >= 0 && word < rightWords ? starts[word] : 0;
            int end = word >= 0 && word < rightWords ? ends[word] : 0;
            int count = 0;
            char sort = 'i';
            for (int place = start; place < end; place = nextNumber(place)) {
                sort = at(place) == '#' ? 'f' : sort;
                count++;
            }
            Noun noun = bench.blank(sort);
            if (count > 1) {
                noun.addAxis(count);
            }
            bench.seal(noun, word);
            int place = start;
            for (int k = 0; k < noun.count; k++) {
                long value = valueAt(place);
                noun.cells[k] = sort == 'f' && at(place) != '#' ? numbers.bitsOf('i', value) : value;
                place = nextNumber(place);
            }
            return noun;
        }
    }

    /** Puts the words of a line together on a stack. */
    private static final class Sentence {
        private static final char MARK = 'm';
        private static final int STACK_ROOM = LINE_ROOM + 1;
        private static final int MOST_RANK = 1000;

        private final Line line;
        private final Bench bench;
        private final Store store;
        private final Numbers numbers;
        private final Machine machine;
        /** The stack; its first thing is at the end. */
        private final char[] sorts = new char[STACK_ROOM];
        private final Noun[] nouns = new Noun[STACK_ROOM];
        private final Verb[] verbs = new Verb[STACK_ROOM];
        private final int[] words = new int[STACK_ROOM];
        private int things;

        Sentence(Line line, Bench bench, Store store, Numbers numbers, Machine machine) {
            this.line = line;
            this.bench = bench;
            this.store = store;
            this.numbers = numbers;
            this.machine = machine;
        }

        /** Runs the line: 'n' if it answers a noun, 'v' a verb, '-' nothing. */
        char answer() {
            line.cut();
            bench.demand(!line.isWrong, 's', line.rightWords);
            things = 0;
            for (int word = line.rightWords - 1; word >= 0; word--) {
                putTogether();
                move(word);
            }
            if (line.rightWords == 0) {
                return '-';
            }
            putTogether();
            push(MARK, null, null, 0);
            putTogether();
            bench.demand(things == 2 && isValue(1), 's', 0);
            return sortAt(1);
        }

        Noun answeredNoun() {
            return nounAt(1);
        }

        private void move(int word) {
            char sort = line.sorts[word];
            char sign = line.signOf(word);
            Noun noun = null;
            Verb verb = null;
            if (sort == 'n') {
                noun = line.nounOf(word, bench, numbers);
            } else if (sort == 'v') {
                verb = new Verb(Verb.SIGN, sign, word);
            } else if (sort == 'w' && sortAt(0) != ':') {
                noun = machine.nounOf(sign);
                verb = noun == null ? new Verb(Verb.NAME, sign, word) : null;
                sort = noun == null ? 'v' : 'n';
            }
            push(sort, noun, verb, word);
        }

        private void push(char sort, Noun noun, Verb verb, int word) {
            if (things < STACK_ROOM) {
                sorts[things] = sort;
                nouns[things] = noun;
                verbs[things] = verb;
                words[things] = word;
                things++;
            }
        }

        /** The sort of the thing at a place from the first one on, or ' ' if there is none. */
        private char sortAt(int place) {
            return place < things ? sorts[things - 1 - place] : ' ';
        }

        private Noun nounAt(int place) {
            return place < things ? nouns[things - 1 - place] : null;
        }

        private Verb verbAt(int place) {
            return place < things ? verbs[things - 1 - place] : null;
        }

        private int wordAtPlace(int place) {
            return place < things ? words[things - 1 - place] : 0;
        }

        private boolean isValue(int place) {
            return sortAt(place) == 'n' || sortAt(place) == 'v';
        }

        /** Each pattern that is done leaves fewer things on the stack. */
        private void putTogether() {
            int pattern = pattern();
            for (int k = 0; k < STACK_ROOM && pattern > 0; k++) {
                perform(pattern);
                pattern = pattern();
            }
        }

        /** The number of the first pattern that fits, or 0. */
        private int pattern() {
            char first = sortAt(0);
            char second = sortAt(1);
            char third = sortAt(2);
            char fourth = sortAt(3);
            boolean isEdge = first == MARK || first == ':' || first == '(';
            boolean isAhead = isEdge || first == 'a' || first == 'v' || first == 'n';
            if (isEdge && second == 'v' && third == 'n') {
                return 1;
            }
            if (isAhead && second == 'v' && third == 'v' && fourth == 'n') {
                return 2;
            }
            if (isAhead && second == 'n' && third == 'v' && fourth == 'n') {
                return 3;
            }
            if (isAhead && isValue(1) && third == 'a') {
                return 4;
            }
            if (isAhead && isValue(1) && third == 'c' && isValue(3)) {
                return 5;
            }
            if (isAhead && isValue(1) && third == 'v' && fourth == 'v') {
                return 6;
            }
            if (isEdge && second == 'v' && third == 'v') {
                return 7;
            }
            if (first == 'w' && second == ':' && isValue(2)) {
                return 8;
            }
            return first == '(' && isValue(1) && third == ')' ? 9 : 0;
        }

        private void perform(int pattern) {
            switch (pattern) {
                case 1:
                    replace(1, 2, machine.apply(verbAt(1), false, null, nounAt(2), 1), null);
                    break;
                case 2:
                    replace(2, 2, machine.apply(verbAt(2), false, null, nounAt(3), 1), null);
                    break;
                case 3:
                    replace(1, 3, machine.apply(verbAt(2), false, nounAt(1), nounAt(3), 1), null);
                    break;
                case 4:
                    replace(1, 2, null, byAdverb());
                    break;
                case 5:
                    replace(1, 3, null, byConjunction());
                    break;
                case 6:
                    replace(1, 3, null, fork());
                    break;
                case 7:
                    replace(1, 2, null, hook());
                    break;
                case 8:
                    machine.give(line.signOf(wordAtPlace(0)), verbAt(2), nounAt(2));
                    replace(0, 3, nounAt(2), verbAt(2));
                    break;
                default:
                    replace(0, 3, nounAt(1), verbAt(1));
                    break;
            }
        }

        /** Puts a noun or a verb in the place of some things that stand side by side. */
        private void replace(int place, int count, Noun noun, Verb verb) {
            int to = things - place - count;
            if (to < 0 || count < 1) {
                return;
            }
            sorts[to] = verb == null ? 'n' : 'v';
            nouns[to] = noun;
            verbs[to] = verb;
            for (int from = things - place; from < things; from++) {
                to++;
                sorts[to] = sorts[from];
                nouns[to] = nouns[from];
                verbs[to] = verbs[from];
                words[to] = words[from];
            }
            things = to + 1;
        }

        private Verb byAdverb() {
            int word = wordAtPlace(2);
            Verb made = new Verb(line.signOf(word), ' ', word);
            made.left = verbAt(1);
            bench.demand(made.left != null, 'd', word);
            return made;
        }

        private Verb byConjunction() {
            int word = wordAtPlace(2);
            char sign = line.signOf(word);
            Verb left = verbAt(1);
            Verb right = verbAt(3);
            if (sign == '&' && (left == null || right == null)) {
                return withNoun(left, right, word);
            }
            Verb made = new Verb(sign, ' ', word);
            made.left = left;
            made.right = right;
            bench.demand(left != null, 'd', word);
            if (sign == '"' || sign == '^') {
                bench.demand(right == null && nounAt(3).sort == 'i', 'd', word);
                readNumbers(made, nounAt(3));
            } else {
                bench.demand(right != null, 'd', word);
            }
            return made;
        }

        private Verb withNoun(Verb left, Verb right, int word) {
            bench.demand(left != null || right != null, 'd', word);
            Verb made = new Verb(left == null ? Verb.NOUN_LEFT : Verb.NOUN_RIGHT, ' ', word);
            made.left = left;
            made.right = right;
            made.noun = store.keep(left == null ? nounAt(1) : nounAt(3));
            return made;
        }

        private void readNumbers(Verb made, Noun numbersOf) {
            if (made.form == Verb.POWER) {
                bench.demand(numbersOf.axes == 0, 'r', made.word);
                long times = numbersOf.cells[0];
                bench.demand(times >= -9 && times <= 10, 'd', made.word);
                made.times = (int) times;
                return;
            }
            int count = numbersOf.count;
            bench.demand(numbersOf.axes <= 1, 'r', made.word);
            bench.demand(count >= 1 && count <= 3, 'l', made.word);
            made.rankOfLeft = rankOf(numbersOf.cells[count == 3 ? 1 : 0]);
            made.rankOfRight = rankOf(numbersOf.cells[count - 1]);
            made.rankOfOne = count == 3 ? rankOf(numbersOf.cells[0]) : made.rankOfRight;
        }

        private static int rankOf(long number) {
            return (int) Math.max(-MOST_RANK, Math.min(MOST_RANK, number));
        }

        private Verb fork() {
            Verb middle = verbAt(2);
            Verb left = verbAt(1);
            Verb made = new Verb(left == null ? Verb.NOUN_FORK : Verb.FORK, ' ', middle == null ? 0 : middle.word);
            made.left = left;
            made.middle = middle;
            made.right = verbAt(3);
            if (left == null) {
                made.noun = store.keep(nounAt(1));
            }
            return made;
        }

        private Verb hook() {
            Verb left = verbAt(1);
            Verb made = new Verb(Verb.HOOK, ' ', left == null ? 0 : left.word);
            made.left = left;
            made.right = verbAt(2);
            return made;
        }
    }
}
