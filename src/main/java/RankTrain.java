import java.util.ArrayList;
import java.util.Arrays;
import java.util.NoSuchElementException;

/** A session of the array language: lines are typed, run, and asked what they came to. */
public final class RankTrain {
    private static final int LINE_ROOM = 80;
    private static final int MOST_CELLS = 64;
    private static final int MOST_AXES = 3;
    private static final int MOST_DEPTH = 40;
    private static final int MOST_APPLICATIONS = 600;
    private static final int MOST_BOX_DEPTH = 5;
    private static final int NAMES = 6;
    private static final long LEAST_WHOLE = -2147483648L;
    private static final long MOST_WHOLE = 2147483647L;

    private final Bench bench;
    private final Store store;
    private final Line line;
    private final Machine machine;
    private final Sentence sentence;
    private char answer;
    private int answered;
    private int lines;
    private int wrongLines;
    private int differentNouns;
    private long costOfAll;

    public RankTrain() {
        Numbers numbers = new Numbers();
        bench = new Bench();
        store = new Store();
        line = new Line();
        machine = new Machine(bench, store, numbers);
        sentence = new Sentence(line, bench, store, machine);
        answer = ' ';
        answered = Store.EMPTY_LIST;
    }

    // ---- lines

    public int type(char character) throws IllegalArgumentException, IllegalStateException {
        if (character < 32 || character > 126) {
            throw new IllegalArgumentException("the character is out of range");
        }
        if (line.isFull()) {
            throw new IllegalStateException("the line has 80 characters");
        }
        line.add(character);
        return line.typed;
    }

    public char run() {
        bench.clear();
        try {
            answer = sentence.answer();
        } catch (IllegalStateException stopped) {
            answer = 'e';
        }
        line.clear();
        lines++;
        costOfAll += bench.paid;
        if (answer == 'e') {
            wrongLines++;
        }
        if (answer == 'n') {
            answered = store.keep(sentence.answeredNoun());
            Kept kept = store.at(answered);
            if (kept.answers == 0) {
                differentNouns++;
            }
            kept.answers++;
        }
        return answer;
    }

    public int retype() throws NoSuchElementException, UnsupportedOperationException {
        long characters = answeredOne().characters;
        if (characters > LINE_ROOM) {
            throw new UnsupportedOperationException("the noun is shown by more than 80 characters");
        }
        line.clear();
        for (int k = 0; k < characters; k++) {
            line.add(store.characterAt(answered, k));
        }
        return line.typed;
    }

    public boolean setSpecial(boolean isOn) {
        boolean before = machine.isSpecial;
        machine.isSpecial = isOn;
        return before;
    }

    // ---- what the last line came to

    public char error() throws NoSuchElementException {
        if (answer != 'e') {
            throw new NoSuchElementException("the last line did not end with an error");
        }
        return bench.wrong;
    }

    public int errorAt() throws NoSuchElementException {
        if (answer != 'e') {
            throw new NoSuchElementException("the last line did not end with an error");
        }
        return bench.wrongWord;
    }

    public char kind() throws NoSuchElementException {
        return answeredOne().noun.sort;
    }

    public int rank() throws NoSuchElementException {
        return answeredOne().noun.axes;
    }

    public int length(int axis) throws NoSuchElementException, IndexOutOfBoundsException {
        Noun noun = answeredOne().noun;
        if (axis < 0 || axis >= noun.axes) {
            throw new IndexOutOfBoundsException("there is no such axis");
        }
        return noun.lengths[axis];
    }

    public int size() throws NoSuchElementException {
        return answeredOne().noun.count;
    }

    public long cell(int index) throws NoSuchElementException, IndexOutOfBoundsException {
        Noun noun = answeredOne().noun;
        if (index < 0 || index >= noun.count) {
            throw new IndexOutOfBoundsException("there is no such cell");
        }
        long content = noun.cells[index];
        return noun.sort == 'x' ? store.inBox(content).count : content;
    }

    public int shown() throws NoSuchElementException {
        return (int) Math.min(answeredOne().characters, MOST_WHOLE);
    }

    public char shownAt(int index) throws NoSuchElementException, IndexOutOfBoundsException {
        long characters = answeredOne().characters;
        if (index < 0 || index >= characters) {
            throw new IndexOutOfBoundsException("there is no such place");
        }
        return store.characterAt(answered, index);
    }

    public long cost() {
        return bench.paid;
    }

    public int applications() {
        return bench.applied;
    }

    public int specials() {
        return bench.specialTimes;
    }

    // ---- names and words

    public char named(int name) throws IndexOutOfBoundsException {
        if (name < 0 || name >= NAMES) {
            throw new IndexOutOfBoundsException("there is no such name");
        }
        return machine.hasOf(name);
    }

    public int words() {
        line.cut();
        return line.rightWords;
    }

    public char wordAt(int word) throws IndexOutOfBoundsException {
        line.cut();
        if (word < 0 || word >= line.rightWords) {
            throw new IndexOutOfBoundsException("there is no such word");
        }
        return line.sorts[word];
    }

    // ---- totals

    public int nouns() {
        return differentNouns;
    }

    public int answeredBefore() throws NoSuchElementException {
        return answeredOne().answers;
    }

    public double meanCost() throws ArithmeticException {
        if (lines == 0) {
            throw new ArithmeticException("there were no lines");
        }
        return (double) costOfAll / (double) lines;
    }

    public float errorShare() throws ArithmeticException {
        if (lines == 0) {
            throw new ArithmeticException("there were no lines");
        }
        return (float) wrongLines / (float) lines;
    }

    private Kept answeredOne() {
        if (answer != 'n') {
            throw new NoSuchElementException("the last line answered no noun");
        }
        return store.at(answered);
    }

    /** An array. A cell is a whole number, the bits of a double, or the number that the store gave to what is boxed. */
    private static final class Noun {
        private static final int LENGTH_BITS = 7;

        final int[] lengths = new int[MOST_AXES];
        final long[] cells;
        char sort = 'i';
        int axes;
        int count = 1;
        /** Its place on the bench, or -1 if it is kept for good. */
        int place = -1;
        boolean isTooLarge;

        Noun(int room) {
            cells = new long[room];
        }

        void start(char newSort) {
            sort = newSort;
            axes = 0;
            count = 1;
            isTooLarge = false;
        }

        /** Its kind and shape in one number. */
        long form() {
            long form = sort;
            for (int k = MOST_AXES - 1; k >= 0; k--) {
                form = form << LENGTH_BITS | (k < axes ? lengths[k] + 1 : 0);
            }
            return form;
        }

        /** Takes the kind and the shape of a noun that has this form. */
        void startForm(long form) {
            start((char) (form >> LENGTH_BITS * MOST_AXES));
            for (int k = 0; k < MOST_AXES; k++) {
                long length = (form >> LENGTH_BITS * k & (1 << LENGTH_BITS) - 1) - 1;
                if (length >= 0) {
                    addAxis(length);
                }
            }
        }

        void addAxis(long length) {
            if (axes >= MOST_AXES || length < 0 || length > MOST_CELLS) {
                isTooLarge = true;
                return;
            }
            lengths[axes] = (int) length;
            axes++;
            count *= (int) length;
        }

        /** Adds the axes of another noun, from one on. */
        void addAxesOf(Noun other, int from) {
            for (int k = from; k < other.axes; k++) {
                addAxis(other.lengths[k]);
            }
        }

        /** Adds axes whose lengths are the cells of another noun. */
        void addAxesToldBy(Noun shape) {
            for (int k = 0; k < shape.count; k++) {
                addAxis(shape.cells[k]);
            }
        }

        /** Adds the axes of so many items of another noun. */
        void addItems(Noun other, long items) {
            addAxis(items);
            for (int k = 1; k < other.axes; k++) {
                addAxis(other.lengths[k]);
            }
        }

        /** Takes the shape and the cells of an item of another noun, that has one at this index. */
        void takeItem(Noun other, int index) {
            for (int k = 1; k < other.axes; k++) {
                addAxis(other.lengths[k]);
            }
            copyCells(other, index * count, 0, count);
        }

        int items() {
            return axes == 0 ? 1 : lengths[0];
        }

        int itemCells() {
            int product = 1;
            for (int k = 1; k < axes; k++) {
                product *= lengths[k];
            }
            return product;
        }

        void copyCells(Noun from, int fromCell, int toCell, int cellCount) {
            boolean isInside = fromCell >= 0 && toCell >= 0 && cellCount > 0;
            if (isInside && fromCell + cellCount <= from.count && toCell + cellCount <= cells.length) {
                System.arraycopy(from.cells, fromCell, cells, toCell, cellCount);
            }
        }

        /** Takes the kind, the shape and the cells of another noun. */
        void copyAll(Noun other) {
            sort = other.sort;
            axes = other.axes;
            count = other.count;
            isTooLarge = false;
            for (int k = 0; k < axes; k++) {
                lengths[k] = other.lengths[k];
            }
            copyCells(other, 0, 0, count);
        }

        boolean isIdentical(Noun other) {
            boolean isIdentical = sort == other.sort && hasShapeOf(other);
            for (int k = 0; k < count && isIdentical; k++) {
                isIdentical = cells[k] == other.cells[k];
            }
            return isIdentical;
        }

        boolean hasShapeOf(Noun other) {
            boolean isSame = axes == other.axes;
            for (int k = 0; k < axes && isSame; k++) {
                isSame = lengths[k] == other.lengths[k];
            }
            return isSame;
        }

        /** A number less than a power of two, mostly another one for another shape or other keys of its cells. */
        int hashOf(long[] keys, int hashes) {
            long mix = axes;
            for (int k = 0; k < axes; k++) {
                mix = mix * 31 + lengths[k];
            }
            for (int k = 0; k < count && k < keys.length; k++) {
                mix = mix * 1000003 + keys[k];
                mix ^= mix >>> 29;
            }
            return (int) ((mix ^ (mix >>> 17)) & (hashes - 1));
        }
    }

    /** A noun that is kept for good, just once for each kind, shape and cells. */
    private static final class Kept {
        final Noun noun;
        /** What a box with it is for comparing: the number of the first noun that is the same, or NEVER_SAME. */
        final long twin;
        /** The one kept before it with the same hash, or -1. */
        final int next;
        int boxDepth;
        long characters;
        int answers;

        Kept(Noun noun, long twin, int next) {
            this.noun = noun;
            this.twin = twin;
            this.next = next;
        }
    }

    /** All nouns that are kept; what is in a box is always kept, so that equal boxes have equal numbers. */
    private static final class Store {
        /** The number of the empty list of whole numbers: a box filled with zero bits has it in it. */
        static final int EMPTY_LIST = 0;
        /** The key of what is not even the same as itself. */
        private static final long NEVER_SAME = Numbers.NO_NUMBER;
        private static final int HASHES = 1024;
        private static final String EMPTY_BOXES = "(<i0)";

        private final ArrayList<Kept> all = new ArrayList<Kept>();
        private final int[] newest = new int[HASHES];
        private final long[] oneKeys = new long[MOST_CELLS];
        private final long[] otherKeys = new long[MOST_CELLS];
        private final Kept emptyList;

        Store() {
            Arrays.fill(newest, -1);
            Noun none = new Noun(0);
            none.addAxis(0);
            emptyList = new Kept(none, EMPTY_LIST, -1);
            emptyList.characters = charactersOf(none);
            all.add(emptyList);
            newest[none.hashOf(oneKeys, HASHES)] = EMPTY_LIST;
        }

        Kept at(long number) {
            return number >= 0 && number < all.size() ? all.get((int) number) : emptyList;
        }

        Noun inBox(long content) {
            return at(content).noun;
        }

        int keep(Noun noun) {
            putKeys(noun, oneKeys);
            int hash = noun.hashOf(oneKeys, HASHES);
            int number = all.size();
            long twin = areSameKeys(oneKeys, 0, oneKeys, 0, noun.count) ? number : NEVER_SAME;
            for (int k = newest[hash]; k >= 0; k = Math.min(k - 1, at(k).next)) {
                Kept old = at(k);
                if (old.noun.isIdentical(noun)) {
                    return k;
                }
                if (canBeSame(old.noun, noun)) {
                    putKeys(old.noun, otherKeys);
                    twin = areSameKeys(otherKeys, 0, oneKeys, 0, noun.count) ? old.twin : twin;
                }
            }
            Noun copy = new Noun(noun.count);
            copy.copyAll(noun);
            Kept kept = new Kept(copy, twin, newest[hash]);
            kept.boxDepth = boxDepthOf(noun);
            kept.characters = charactersOf(noun);
            all.add(kept);
            newest[hash] = number;
            return number;
        }

        int boxDepthOf(Noun noun) {
            int deepest = 0;
            for (int k = 0; k < noun.count && noun.sort == 'x'; k++) {
                deepest = Math.max(deepest, 1 + at(noun.cells[k]).boxDepth);
            }
            return deepest;
        }

        // How nouns are compared.

        /** As "i" finds nouns the same: kinds aside, numbers as doubles. */
        boolean isSame(Noun one, Noun other) {
            putKeys(one, oneKeys);
            putKeys(other, otherKeys);
            return canBeSame(one, other) && areSameKeys(oneKeys, 0, otherKeys, 0, one.count);
        }

        private static boolean canBeSame(Noun one, Noun other) {
            return one.hasShapeOf(other) && (one.count == 0 || (one.sort == 'x') == (other.sort == 'x'));
        }

        /** Puts a key for each cell into a row: cells of numbers, or cells of boxes, with equal keys are the same. */
        void putKeys(Noun noun, long[] row) {
            for (int k = 0; k < noun.count && k < row.length; k++) {
                long cell = noun.cells[k];
                boolean isZero = noun.sort == 'f' && cell == Numbers.MINUS;
                row[k] = noun.sort == 'x' ? at(cell).twin : noun.sort == 'i' ? Numbers.bitsOfWhole(cell) : isZero ? 0 : cell;
            }
        }

        static boolean areSameKeys(long[] one, int oneFrom, long[] other, int otherFrom, int count) {
            boolean areSame = count == 0 || oneFrom + count <= one.length && otherFrom + count <= other.length;
            for (int k = 0; k < count && areSame; k++) {
                areSame = one[oneFrom + k] == other[otherFrom + k] && one[oneFrom + k] != NEVER_SAME;
            }
            return areSame;
        }

        // How nouns are shown.

        private long charactersOf(Noun noun) {
            if (noun.sort == 'x' && noun.axes == 0) {
                return 1 + at(noun.cells[0]).characters;
            }
            long characters = shapeCharacters(noun);
            if (noun.sort == 'x' && noun.count == 0) {
                return characters + EMPTY_BOXES.length();
            }
            int cells = Math.max(1, noun.count);
            for (int k = 0; k < cells; k++) {
                long cell = k < noun.count ? noun.cells[k] : 0;
                characters += noun.sort == 'x' ? 3 + at(cell).characters : Numbers.charactersOf(noun.sort, cell);
            }
            return characters + cells - 1;
        }

        /** The number of characters of the shape and the "$" behind it; some nouns are shown without. */
        private static int shapeCharacters(Noun noun) {
            boolean isPlainList = noun.axes == 1 && noun.count > 1 && noun.sort != 'x';
            int characters = 0;
            for (int k = 0; k < noun.axes && !isPlainList; k++) {
                characters += noun.lengths[k] < 10 ? 2 : 3;
            }
            return characters;
        }

        char characterAt(int number, long index) {
            Noun noun = at(number).noun;
            long rest = index;
            for (int depth = 0; depth <= MOST_BOX_DEPTH; depth++) {
                long ahead = shapeCharacters(noun);
                if (rest < ahead) {
                    return shapeCharacterAt(noun, rest);
                }
                rest -= ahead;
                if (noun.sort != 'x') {
                    return numberCharacterAt(noun, rest);
                }
                if (noun.count == 0) {
                    return rest < EMPTY_BOXES.length() ? EMPTY_BOXES.charAt((int) rest) : ' ';
                }
                int box = 0;
                while (box < noun.count - 1 && rest > boxCharacters(noun, box)) {
                    rest -= boxCharacters(noun, box) + 1;
                    box++;
                }
                char around = aroundBox(noun, box, rest);
                if (around != ' ') {
                    return around;
                }
                rest -= noun.axes == 0 ? 1 : 2;
                noun = inBox(noun.cells[box]);
            }
            return ' ';
        }

        private long boxCharacters(Noun noun, int box) {
            return 3 + at(noun.cells[box]).characters;
        }

        /** The character at a place that is not of what is in the box, or ' '. */
        private char aroundBox(Noun noun, int box, long place) {
            if (place == 0) {
                return noun.axes == 0 ? '<' : '(';
            }
            if (noun.axes == 0) {
                return ' ';
            }
            long last = boxCharacters(noun, box) - 1;
            return place == 1 ? '<' : place == last ? ')' : place > last ? ',' : ' ';
        }

        private static char shapeCharacterAt(Noun noun, long index) {
            long rest = index;
            for (int k = 0; k < noun.axes; k++) {
                int characters = Numbers.charactersOf('i', noun.lengths[k]);
                if (rest < characters) {
                    return Numbers.characterAt('i', noun.lengths[k], (int) rest);
                }
                if (rest == characters) {
                    return k < noun.axes - 1 ? ' ' : '$';
                }
                rest -= characters + 1;
            }
            return ' ';
        }

        /** An array of numbers without cells shows one zero. */
        private static char numberCharacterAt(Noun noun, long index) {
            long rest = index;
            for (int k = 0; k < Math.max(1, noun.count) && rest >= 0; k++) {
                long cell = k < noun.count ? noun.cells[k] : 0;
                int characters = Numbers.charactersOf(noun.sort, cell);
                if (rest < characters) {
                    return Numbers.characterAt(noun.sort, cell, (int) rest);
                }
                rest -= characters + 1;
            }
            return ' ';
        }
    }

    /** What a line has on the go: the nouns that it made and may drop again, what it took and what went wrong. */
    private static final class Bench {
        private static final int FIRST_ROOM = 1024;
        private static final int MOST_ROOM = 524288;
        private static final int NOUN_ROOM = 2;
        private static final int APPLICATION_ROOM = 6;
        /** A power of two. */
        private static final int HEADS = 8192;

        private final ArrayList<Noun> nouns = new ArrayList<Noun>();
        private int used;
        /** How deep the application that stands open at each depth led. */
        private final int[] reached = new int[MOST_DEPTH + 1];
        /**
         * What is known: nouns, each the place of the next one with the same head, its form and its cells, and
         * applications, each the place of the next one, the verb, the places of x, y and the result, and how much deeper
         * it led. The next one is further ahead, since it became known before. At the place 0 there is nothing.
         */
        private long[] known = new long[FIRST_ROOM];
        private int knownUsed = 1;
        private final int[] nounHeads = new int[HEADS];
        private final int[] applicationHeads = new int[HEADS];
        long paid;
        int applied;
        int specialTimes;
        char wrong = ' ';
        int wrongWord;

        void clear() {
            used = 0;
            paid = 0;
            applied = 0;
            specialTimes = 0;
            forget();
        }

        /** Ends the line with an error if something does not hold. */
        void demand(boolean holds, char newWrong, int word) {
            if (!holds) {
                wrong = newWrong;
                wrongWord = word;
                throw new IllegalStateException("the line ends with an error");
            }
        }

        void enter(int word, int depth) {
            demand(depth <= MOST_DEPTH, 'm', word);
            if (depth > 0 && depth <= MOST_DEPTH) {
                reached[depth] = depth;
                reach(depth - 1, depth);
            }
        }

        /** Notes how deep the applications that stand open from a depth upwards led. */
        private void reach(int depth, int deepest) {
            for (int k = depth; k >= 0 && reached[k] < deepest; k--) {
                reached[k] = deepest;
            }
        }

        void countApplication(int word) {
            applied++;
            demand(applied <= MOST_APPLICATIONS, 'm', word);
        }

        /** A noun without axes; its axes are to be added, and then it is to be sealed. */
        Noun blank(char sort) {
            if (used >= nouns.size()) {
                Noun added = new Noun(MOST_CELLS);
                added.place = nouns.size();
                nouns.add(added);
            }
            Noun noun = nouns.get(Math.min(used, nouns.size() - 1));
            used++;
            noun.start(sort);
            return noun;
        }

        /** Fills a noun that has all its axes with zeros, or ends the line if it is too large. */
        void seal(Noun noun, int word) {
            demand(!noun.isTooLarge && noun.count <= MOST_CELLS, 'm', word);
            for (int k = 0; k < noun.count && k < noun.cells.length; k++) {
                noun.cells[k] = 0;
            }
        }

        Noun atom(char sort, long cell) {
            Noun noun = blank(sort);
            noun.cells[0] = cell;
            return noun;
        }

        /** A list of items of a noun, from one on. */
        Noun someItems(Noun noun, int from, int items, int word) {
            Noun list = blank(noun.sort);
            list.addItems(noun, items);
            seal(list, word);
            list.copyCells(noun, from * noun.itemCells(), 0, items * noun.itemCells());
            return list;
        }

        int mark() {
            return used;
        }

        /** Drops all nouns that were made since the mark, but for one. */
        void release(int mark, Noun result) {
            used = mark;
            if (result.place >= mark && mark < nouns.size() && result.place < nouns.size()) {
                Noun other = nouns.get(mark);
                nouns.set(result.place, other);
                other.place = result.place;
                nouns.set(mark, result);
                result.place = mark;
                used = mark + 1;
            }
        }

        // No limit ends a line for applications that take nothing, and names can ask for more of them than anyone
        // waits for. So what they made is known for the rest of the line, and not made again.

        void forget() {
            if (knownUsed > 1) {
                Arrays.fill(nounHeads, 0);
                Arrays.fill(applicationHeads, 0);
                knownUsed = 1;
            }
        }

        /** What a verb is known to make of these arguments so deep, or null. */
        Noun knownResult(long verb, Noun x, Noun y, int depth) {
            int xPlace = placeOf(x);
            int yPlace = placeOf(y);
            int place = xPlace < 0 || yPlace < 0 ? 0 : applicationHeads[headOf(verb, xPlace, yPlace)];
            while (place > 0 && !isApplicationAt(place, verb, xPlace, yPlace)) {
                place = (int) Math.min(place - 1, known[place]);
            }
            int deepest = place > 0 ? depth + (int) known[place + 5] : 0;
            if (place <= 0 || deepest > MOST_DEPTH) {
                return null;
            }
            reach(depth, deepest);
            return nounAt((int) known[place + 4]);
        }

        /** Makes known what a verb made of these arguments. */
        void know(long verb, Noun x, Noun y, Noun result, int depth) {
            if (knownUsed + APPLICATION_ROOM + 3 * (NOUN_ROOM + MOST_CELLS) > known.length) {
                makeRoom();
            }
            int xPlace = placeMade(x);
            int yPlace = placeMade(y);
            int resultPlace = placeMade(result);
            int head = headOf(verb, xPlace, yPlace);
            int place = knownUsed;
            known[place] = applicationHeads[head];
            known[place + 1] = verb;
            known[place + 2] = xPlace;
            known[place + 3] = yPlace;
            known[place + 4] = resultPlace;
            known[place + 5] = reached[depth] - depth;
            applicationHeads[head] = place;
            knownUsed += APPLICATION_ROOM;
        }

        private void makeRoom() {
            if (known.length < MOST_ROOM) {
                known = Arrays.copyOf(known, 2 * known.length);
            } else {
                forget();
            }
        }

        private static int headOf(long verb, int xPlace, int yPlace) {
            long mix = (verb * 1000003 + xPlace) * 1000003 + yPlace;
            return (int) ((mix ^ (mix >>> 17)) & (HEADS - 1));
        }

        private boolean isApplicationAt(int place, long verb, int xPlace, int yPlace) {
            return known[place + 1] == verb && known[place + 2] == xPlace && known[place + 3] == yPlace;
        }

        private boolean isNounAt(int place, Noun noun, long form) {
            boolean isSame = known[place + 1] == form;
            for (int k = 0; k < noun.count && isSame; k++) {
                isSame = known[place + NOUN_ROOM + k] == noun.cells[k];
            }
            return isSame;
        }

        /** The place of a noun, 0 for null, -1 if it is not known. */
        private int placeOf(Noun noun) {
            if (noun == null) {
                return 0;
            }
            long form = noun.form();
            int place = nounHeads[noun.hashOf(noun.cells, HEADS)];
            while (place > 0 && !isNounAt(place, noun, form)) {
                place = (int) Math.min(place - 1, known[place]);
            }
            return place > 0 ? place : -1;
        }

        private int placeMade(Noun noun) {
            int place = placeOf(noun);
            if (place >= 0 || noun == null) {
                return place;
            }
            int head = noun.hashOf(noun.cells, HEADS);
            place = knownUsed;
            known[place] = nounHeads[head];
            known[place + 1] = noun.form();
            System.arraycopy(noun.cells, 0, known, place + NOUN_ROOM, noun.count);
            nounHeads[head] = place;
            knownUsed += NOUN_ROOM + noun.count;
            return place;
        }

        private Noun nounAt(int place) {
            Noun noun = blank('i');
            noun.startForm(known[place + 1]);
            System.arraycopy(known, place + NOUN_ROOM, noun.cells, 0, noun.count);
            return noun;
        }
    }

    /** Arithmetic on single cells; doubles are kept as their bits, so that what is no number is never computed with. */
    private static final class Numbers {
        static final long NO_NUMBER = 0x7FF8000000000000L;
        static final long MINUS = 0x8000000000000000L;
        private static final long INFINITE = 0x7FF0000000000000L;
        private static final long MAGNITUDE = 0x7FFFFFFFFFFFFFFFL;
        private static final long FRACTION = 0x000FFFFFFFFFFFFFL;
        private static final long UNIT = 0x0010000000000000L;
        private static final long ONE = 0x3FF0000000000000L;
        private static final int FRACTION_BITS = 52;
        private static final int BIAS = 1023;
        private static final int POWERS = 10;

        /** The powers of two whose exponents are 1, 2, 4 and so on. */
        private final double[] powers = new double[POWERS];
        /** The kind of the last result. */
        char sort = 'i';

        Numbers() {
            double power = 2.0;
            for (int k = 0; k < POWERS; k++) {
                powers[k] = power;
                power = k < POWERS - 1 ? power * power : power;
            }
        }

        long ofOne(char sign, char ySort, long y) {
            if (sign == '*') {
                sort = 'i';
                boolean isZero = ySort == 'f' ? isZero(y) || isNoNumber(y) : y == 0;
                return isZero ? 0 : y < 0 ? -1 : 1;
            }
            if (sign == '%') {
                sort = 'f';
                return quotient(ONE, bitsOf(ySort, y));
            }
            if (ySort == 'i') {
                return inRange(sign == '-' ? -y : sign == '|' ? Math.abs(y) : y);
            }
            sort = 'f';
            return sign == '-' ? negated(y) : sign == '|' ? y & MAGNITUDE : y;
        }

        long ofWholes(char sign, long x, long y) {
            switch (sign) {
                case '+':
                    return inRange(x + y);
                case '-':
                    return inRange(x - y);
                case '*':
                    return inRange(x * y);
                case '|':
                    return inRange(x == 0 ? y : Math.floorMod(y, x));
                case '<':
                    return truth(x < y);
                case '>':
                    return truth(x > y);
                case '=':
                    return truth(x == y);
                default:
                    return truth(x != y);
            }
        }

        long ofDoubles(char sign, long x, long y) {
            sort = 'f';
            switch (sign) {
                case '+':
                    return sum(x, y);
                case '-':
                    return sum(x, negated(y));
                case '*':
                    return product(x, y);
                case '%':
                    return quotient(x, y);
                case '|':
                    return isZero(x) ? y : sum(y, negated(product(x, floor(quotient(y, x)))));
                case '<':
                    return truth(isLess(x, y));
                case '>':
                    return truth(isLess(y, x));
                case '=':
                    return truth(areEqual(x, y));
                default:
                    return truth(!areEqual(x, y));
            }
        }

        private long truth(boolean holds) {
            sort = 'i';
            return holds ? 1 : 0;
        }

        private long inRange(long whole) {
            boolean isIn = whole >= LEAST_WHOLE && whole <= MOST_WHOLE;
            sort = isIn ? 'i' : 'f';
            return isIn ? whole : bitsOfWhole(whole);
        }

        /** The order of Double.compare, which puts -0 ahead of 0 and what is no number last. */
        static int order(char sameSort, long x, long y) {
            long xKey = sameSort == 'f' && x < 0 ? x ^ MAGNITUDE : x;
            long yKey = sameSort == 'f' && y < 0 ? y ^ MAGNITUDE : y;
            return xKey < yKey ? -1 : xKey > yKey ? 1 : 0;
        }

        static long bitsOf(char cellSort, long cell) {
            return cellSort == 'i' ? bitsOfWhole(cell) : cell;
        }

        /** The bits as Double.doubleToLongBits tells them. */
        static long canonical(long bits) {
            return isNoNumber(bits) ? NO_NUMBER : bits;
        }

        private static boolean isNoNumber(long bits) {
            return (bits & MAGNITUDE) > INFINITE;
        }

        private static boolean isInfinite(long bits) {
            return (bits & MAGNITUDE) == INFINITE;
        }

        private static boolean isZero(long bits) {
            return (bits & MAGNITUDE) == 0;
        }

        private static long negated(long bits) {
            return isNoNumber(bits) ? bits : bits ^ MINUS;
        }

        private static boolean areEqual(long x, long y) {
            return !isNoNumber(x) && (x == y || isZero(x | y));
        }

        private static boolean isLess(long x, long y) {
            boolean areNumbers = !isNoNumber(x) && !isNoNumber(y);
            return areNumbers && !isZero(x | y) && order('f', x, y) < 0;
        }

        private long sum(long x, long y) {
            if (isNoNumber(x) || isNoNumber(y) || isInfinite(x) && isInfinite(y) && x != y) {
                return NO_NUMBER;
            }
            if (isInfinite(x) || isInfinite(y)) {
                return isInfinite(x) ? x : y;
            }
            return bitsOfDouble(valueOf(x) + valueOf(y), x & y & MINUS);
        }

        private long product(long x, long y) {
            boolean isOpen = isInfinite(x) && isZero(y) || isZero(x) && isInfinite(y);
            if (isNoNumber(x) || isNoNumber(y) || isOpen) {
                return NO_NUMBER;
            }
            if (isInfinite(x) || isInfinite(y)) {
                return INFINITE | ((x ^ y) & MINUS);
            }
            return bitsOfDouble(valueOf(x) * valueOf(y), (x ^ y) & MINUS);
        }

        private long quotient(long x, long y) {
            boolean isOpen = isInfinite(x) && isInfinite(y) || isZero(x) && isZero(y);
            if (isNoNumber(x) || isNoNumber(y) || isOpen) {
                return NO_NUMBER;
            }
            if (isInfinite(x) || isZero(y)) {
                return INFINITE | ((x ^ y) & MINUS);
            }
            if (isInfinite(y)) {
                return (x ^ y) & MINUS;
            }
            return bitsOfDouble(valueOf(x) / valueOf(y), (x ^ y) & MINUS);
        }

        /** As Math.floor: the fraction's bits are cut off, one unit further from zero below it. */
        private static long floor(long bits) {
            int power = (int) ((bits & MAGNITUDE) >>> FRACTION_BITS) - BIAS;
            if (power >= FRACTION_BITS || isZero(bits)) {
                return bits;
            }
            if (power < 0) {
                return bits < 0 ? MINUS | ONE : 0;
            }
            long behindPoint = (UNIT >>> power) - 1;
            if ((bits & behindPoint) == 0) {
                return bits;
            }
            return (bits < 0 ? bits + behindPoint : bits) & ~behindPoint;
        }

        /** The bits of the double that is made from a long, rounded to the even one of two that are as near. */
        static long bitsOfWhole(long whole) {
            if (whole == 0) {
                return 0;
            }
            long size = Math.abs(whole);
            int power = 63 - Long.numberOfLeadingZeros(size);
            long kept = power <= FRACTION_BITS ? size << (FRACTION_BITS - power) : size >>> (power - FRACTION_BITS);
            if (power > FRACTION_BITS) {
                long half = 1L << (power - FRACTION_BITS - 1);
                long lost = size & (2 * half - 1);
                kept += lost > half || lost == half && (kept & 1) == 1 ? 1 : 0;
            }
            long bits = ((long) (power + BIAS) << FRACTION_BITS) + (kept - UNIT);
            return whole < 0 ? bits | MINUS : bits;
        }

        /** The double of bits that are those of a finite one. */
        private double valueOf(long bits) {
            int exponent = (int) ((bits & MAGNITUDE) >>> FRACTION_BITS);
            double size = (double) (exponent == 0 ? bits & FRACTION : (bits & FRACTION) | UNIT);
            int power = Math.max(1, exponent) - BIAS - FRACTION_BITS;
            if (power < -1000) {
                size = size / 18446744073709551616.0;
                power += 64;
            }
            int steps = Math.abs(power);
            for (int k = 0; k < POWERS; k++) {
                if (((steps >> k) & 1) == 1) {
                    size = power > 0 ? size * powers[k] : size / powers[k];
                }
            }
            return bits < 0 ? -size : size;
        }

        /** The bits of a double, or those of a zero that are told. */
        private long bitsOfDouble(double value, long zero) {
            if (value == 0.0) {
                return zero;
            }
            long minus = value < 0.0 ? MINUS : 0;
            double size = value < 0.0 ? -value : value;
            if (size > 1.7976931348623157E308) {
                return minus | INFINITE;
            }
            int power = 0;
            if (size < 1.0E-200) {
                size = size * powers[POWERS - 1];
                power = -512;
            }
            boolean isLarge = size >= 9007199254740992.0;
            for (int k = POWERS - 1; k >= 0; k--) {
                if (isLarge && size / powers[k] >= 4503599627370496.0) {
                    size = size / powers[k];
                    power += 1 << k;
                } else if (!isLarge && size * powers[k] < 9007199254740992.0) {
                    size = size * powers[k];
                    power -= 1 << k;
                }
            }
            long unit = (long) size;
            int exponent = power + BIAS + FRACTION_BITS;
            if (exponent < 1) {
                return minus | (unit >>> Math.min(63, 1 - exponent));
            }
            return minus | ((long) exponent << FRACTION_BITS) | (unit & FRACTION);
        }

        // How numbers are shown.

        static int charactersOf(char cellSort, long cell) {
            if (cellSort == 'f') {
                return 17;
            }
            int length = cell < 0 ? 2 : 1;
            for (long rest = Math.abs(cell) / 10; rest > 0; rest /= 10) {
                length++;
            }
            return length;
        }

        static char characterAt(char cellSort, long cell, int index) {
            if (index == 0 && (cellSort == 'f' || cell < 0)) {
                return cellSort == 'f' ? '#' : '_';
            }
            if (cellSort == 'f') {
                int digit = (int) ((cell >>> (4 * (16 - index))) & 15);
                return (char) (digit < 10 ? '0' + digit : 'a' + digit - 10);
            }
            long rest = Math.abs(cell);
            for (int k = charactersOf(cellSort, cell) - 1; k > index; k--) {
                rest /= 10;
            }
            return (char) ('0' + rest % 10);
        }
    }

    /** A verb of one character, of a name, or made by an adverb, a conjunction or a train. */
    private static final class Verb {
        static final char SIGN = 's';
        static final char NAME = 'n';
        static final char INSERT = '/';
        static final char WINDOWS = '\\';
        static final char SWAP = '~';
        static final char ATOP = '@';
        static final char BOTH = '&';
        static final char NOUN_LEFT = 'l';
        static final char NOUN_RIGHT = 'r';
        static final char RANKED = '"';
        static final char POWER = '^';
        static final char UNDER = 'U';
        static final char FORK = 'f';
        static final char NOUN_FORK = 'g';
        static final char HOOK = 'h';

        final char form;
        /** The character of a verb of one character or of a name. */
        final char sign;
        final int word;
        /** Tells it from all others of the session. */
        final int number;
        Verb left;
        Verb middle;
        Verb right;
        /** The number in the store of the noun in it. */
        int noun = Store.EMPTY_LIST;
        int times;
        int rankOfOne = MOST_AXES;
        int rankOfLeft = MOST_AXES;
        int rankOfRight = MOST_AXES;

        Verb(char form, char sign, int word, int number) {
            this.form = form;
            this.sign = sign;
            this.word = word;
            this.number = number;
        }

        boolean isSign(char wanted) {
            return form == SIGN && sign == wanted;
        }

        /** The verb beside the noun of one that has a noun. */
        Verb besideNoun() {
            return form == NOUN_LEFT ? right : left;
        }

        /** The rank of the cells for a rank of a verb, where a rank less than 0 leaves so many axes out. */
        static int cellRank(int rank, Noun argument) {
            return rank < 0 ? Math.max(0, argument.axes + rank) : Math.min(rank, argument.axes);
        }
    }

    /** The cells of a verb's arguments and the results for them; there is one for each depth. */
    private static final class Level {
        private static final int WHOLES = 1;
        private static final int DOUBLES = 2;
        private static final int BOXES = 4;

        /** What is applied to the cells: a verb or its inverse, or a verb of one character. */
        Verb verb;
        boolean isBack;
        char sign;
        int word;
        /** How many times it is applied; 0 for a frame without cells. */
        int frameCells;
        private final int[] frame = new int[MOST_AXES];
        private int frameAxes;
        private Noun x;
        private Noun y;
        private int xRank;
        private int yRank;
        private int xStep;
        private int yStep;

        private final Noun[] results = new Noun[MOST_CELLS];
        private int resultCount;
        /** The sum of WHOLES, DOUBLES and BOXES, of those that there are. */
        private int resultSorts;
        private int leastRank;
        private int greatestRank;
        /** The greatest length of each axis, from the last axis on. */
        private final int[] greatest = new int[MOST_AXES];

        void applySign(char newSign, int newWord) {
            verb = null;
            isBack = false;
            sign = newSign;
            word = newWord;
        }

        void applyVerb(Verb newVerb, boolean newIsBack, int newWord) {
            verb = newVerb;
            isBack = newIsBack;
            sign = ' ';
            word = newWord;
        }

        /** Splits arguments into cells of these ranks; answers whether their frames fit. */
        boolean split(Noun newX, Noun newY, int newXRank, int newYRank) {
            x = newX;
            y = newY;
            xRank = newXRank;
            yRank = newYRank;
            int xFrame = x == null ? 0 : x.axes - xRank;
            int yFrame = y.axes - yRank;
            Noun longer = x != null && xFrame > yFrame ? x : y;
            frameAxes = Math.min(MOST_AXES, Math.max(xFrame, yFrame));
            frameCells = 1;
            xStep = 1;
            yStep = 1;
            for (int k = 0; k < frameAxes; k++) {
                frame[k] = longer.lengths[k];
                frameCells *= frame[k];
                xStep *= k < xFrame ? 1 : frame[k];
                yStep *= k < yFrame ? 1 : frame[k];
                if (x != null && k < xFrame && k < yFrame && x.lengths[k] != y.lengths[k]) {
                    return false;
                }
            }
            return true;
        }

        boolean hasFrame() {
            return frameAxes > 0;
        }

        /** A frame of one axis, as for the lists of items. */
        void frameOf(int length) {
            frameAxes = 1;
            frame[0] = length;
            frameCells = length;
        }

        /** The cell of x or y that goes with an index in the frame; null if there is no x. */
        Noun cellAt(Bench bench, boolean isX, int index) {
            Noun whole = isX ? x : y;
            int rank = isX ? xRank : yRank;
            int step = isX ? xStep : yStep;
            if (whole == null || rank >= whole.axes || step < 1) {
                return whole;
            }
            Noun cell = zeroCell(bench, isX);
            cell.copyCells(whole, index / step * cell.count, 0, cell.count);
            return cell;
        }

        Noun zeroCell(Bench bench, boolean isX) {
            Noun whole = isX ? x : y;
            if (whole == null) {
                return null;
            }
            Noun cell = bench.blank(whole.sort);
            cell.addAxesOf(whole, whole.axes - (isX ? xRank : yRank));
            bench.seal(cell, word);
            return cell;
        }

        void dropResults() {
            resultCount = 0;
            resultSorts = 0;
            leastRank = MOST_AXES;
            greatestRank = 0;
            Arrays.fill(greatest, 0);
        }

        void addResult(Noun result) {
            // More results than cells can only make an array without cells, for which shapes are enough.
            if (resultCount < MOST_CELLS) {
                results[resultCount] = result;
            }
            resultCount++;
            resultSorts |= result.sort == 'x' ? BOXES : result.sort == 'f' ? DOUBLES : WHOLES;
            leastRank = Math.min(leastRank, result.axes);
            greatestRank = Math.max(greatestRank, result.axes);
            for (int k = 0; k < result.axes; k++) {
                greatest[k] = Math.max(greatest[k], result.lengths[result.axes - 1 - k]);
            }
        }

        /** The results side by side in the shape of the frame, filled up to the same shape. */
        Noun together(Bench bench) {
            bench.demand(resultSorts <= BOXES, 'd', word);
            Noun all = bench.blank(resultSorts == BOXES ? 'x' : resultSorts >= DOUBLES ? 'f' : 'i');
            for (int k = 0; k < frameAxes; k++) {
                all.addAxis(frame[k]);
            }
            int blockCells = 1;
            for (int k = greatestRank - 1; k >= 0; k--) {
                greatest[k] = k < leastRank ? greatest[k] : Math.max(1, greatest[k]);
                blockCells *= greatest[k];
                all.addAxis(greatest[k]);
            }
            bench.seal(all, word);
            for (int k = 0; all.count > 0 && k < Math.min(resultCount, MOST_CELLS); k++) {
                place(results[k], all, k * blockCells);
            }
            return all;
        }

        private void place(Noun result, Noun all, int from) {
            for (int cell = 0; cell < result.count; cell++) {
                int rest = cell;
                int to = from;
                int step = 1;
                for (int k = 0; k < result.axes; k++) {
                    int length = Math.max(1, result.lengths[result.axes - 1 - k]);
                    to += rest % length * step;
                    rest /= length;
                    step *= greatest[k];
                }
                long content = result.cells[cell];
                if (to < all.count) {
                    all.cells[to] = all.sort == 'f' ? Numbers.bitsOf(result.sort, content) : content;
                }
            }
        }
    }

    /** The verbs of one character, behind ranks. */
    private static final class Signs {
        private static final String ZERO_RANKS_OF_ONE = "+-*%|=>";
        private static final String ZERO_RANKS_OF_TWO = "+-*%|=<>n";

        private final Bench bench;
        private final Store store;
        private final Numbers numbers;
        private final int[] order = new int[MOST_CELLS];
        private final long[] xKeys = new long[MOST_CELLS];
        private final long[] yKeys = new long[MOST_CELLS];

        Signs(Bench bench, Store store, Numbers numbers) {
            this.bench = bench;
            this.store = store;
            this.numbers = numbers;
        }

        static int rankOfOne(char sign) {
            return ZERO_RANKS_OF_ONE.indexOf(sign) >= 0 ? 0 : sign == 'i' ? 1 : MOST_AXES;
        }

        static int rankOfLeft(char sign) {
            boolean isZero = sign == '{' || ZERO_RANKS_OF_TWO.indexOf(sign) >= 0;
            return isZero ? 0 : sign == '#' || sign == '$' ? 1 : MOST_AXES;
        }

        static int rankOfRight(char sign) {
            return ZERO_RANKS_OF_TWO.indexOf(sign) >= 0 ? 0 : MOST_AXES;
        }

        /** Whether all of its results are single numbers. */
        static boolean isNumeric(char sign, boolean hasX) {
            return hasX ? ZERO_RANKS_OF_TWO.indexOf(sign) >= 0 : sign != '>' && ZERO_RANKS_OF_ONE.indexOf(sign) >= 0;
        }

        /** An application to each cell, of arguments that have cells and whose frames fit; x is null if there is no x. */
        Noun numericCells(char sign, int word, Noun x, Noun y) {
            Noun longer = x != null && x.axes > y.axes ? x : y;
            Noun result = bench.blank('i');
            result.addAxesOf(longer, 0);
            boolean isWrong = y.sort == 'x' || (x == null ? sign == '=' : x.sort == 'x');
            boolean areWholes = x != null && x.sort == 'i' && y.sort == 'i' && sign != '%';
            int xStep = x == null || x.count == 0 ? 1 : Math.max(1, result.count / x.count);
            int yStep = y.count == 0 ? 1 : Math.max(1, result.count / y.count);
            for (int k = 0; k < result.count; k++) {
                bench.countApplication(word);
                bench.demand(!isWrong, 'd', word);
                long yCell = y.cells[k / yStep];
                long xCell = x == null ? 0 : x.cells[k / xStep];
                long cell = x == null ? numbers.ofOne(sign, y.sort, yCell)
                    : areWholes ? numbers.ofWholes(sign, xCell, yCell)
                    : numbers.ofDoubles(sign, Numbers.bitsOf(x.sort, xCell), Numbers.bitsOf(y.sort, yCell));
                putNumber(result, k, numbers.sort, cell);
                bench.paid += x == null ? 2 : 3;
            }
            return result;
        }

        /** One double makes all numbers of the result doubles. */
        private static void putNumber(Noun result, int index, char sort, long cell) {
            if (sort == 'f' && result.sort == 'i') {
                result.sort = 'f';
                for (int k = 0; k < index; k++) {
                    result.cells[k] = Numbers.bitsOfWhole(result.cells[k]);
                }
            }
            result.cells[index] = result.sort == 'f' ? Numbers.bitsOf(sort, cell) : cell;
        }

        /** One application of a verb to one argument. */
        Noun ofOne(char sign, int word, Noun y) {
            bench.countApplication(word);
            Noun result = y;
            switch (sign) {
                case '<':
                    bench.demand(store.boxDepthOf(y) < MOST_BOX_DEPTH, 'm', word);
                    result = bench.atom('x', store.keep(y));
                    break;
                case '>':
                    result = y.sort == 'x' ? store.inBox(y.cells[0]) : y;
                    break;
                case '#':
                    result = bench.atom('i', y.items());
                    break;
                case '$':
                    result = lengthsOf(y);
                    break;
                case ',':
                    result = ravelled(y);
                    break;
                case 'i':
                    result = counted(y, word);
                    break;
                case 'g':
                    result = graded(y, word);
                    break;
                case 'r':
                    result = reversed(y, word);
                    break;
                case 't':
                    result = transposed(y);
                    break;
                case 'n':
                    result = different(y, word);
                    break;
                case 'h':
                    result = firstItem(y, word);
                    break;
                case 'e':
                    result = without(y, 1, word);
                    break;
                default:
                    bench.demand(sign == '[' || sign == ']', 'd', word);
                    break;
            }
            bench.paid += y.count + result.count;
            return result;
        }

        /** One application of a verb to two arguments. */
        Noun ofTwo(char sign, int word, Noun x, Noun y) {
            bench.countApplication(word);
            Noun result = y;
            switch (sign) {
                case '#':
                    result = copied(x, y, word);
                    break;
                case '$':
                    result = shaped(x, y, word);
                    break;
                case ',':
                    result = joined(x, y, word);
                    break;
                case '{':
                    result = taken(x, y, word);
                    break;
                case 'i':
                    result = found(x, y, word);
                    break;
                case 'r':
                    result = turned(y, oneWhole(x, word), word);
                    break;
                case 'h':
                    result = first(y, oneWhole(x, word), word);
                    break;
                case 'e':
                    result = without(y, oneWhole(x, word), word);
                    break;
                case '[':
                    result = x;
                    break;
                default:
                    bench.demand(sign == ']', 'd', word);
                    break;
            }
            bench.paid += x.count + y.count + result.count;
            return result;
        }

        /** An argument that is to be one whole number. */
        private long oneWhole(Noun x, int word) {
            bench.demand(x.sort == 'i', 'd', word);
            bench.demand(x.axes == 0, 'r', word);
            return x.cells[0];
        }

        private void demandCounts(Noun x, int word) {
            bench.demand(x.sort == 'i', 'd', word);
            for (int k = 0; k < x.count; k++) {
                bench.demand(x.cells[k] >= 0, 'd', word);
            }
        }

        private Noun lengthsOf(Noun y) {
            Noun result = bench.blank('i');
            result.addAxis(y.axes);
            for (int k = 0; k < y.axes; k++) {
                result.cells[k] = y.lengths[k];
            }
            return result;
        }

        private Noun ravelled(Noun y) {
            Noun result = bench.blank(y.sort);
            result.addAxis(y.count);
            result.copyCells(y, 0, 0, y.count);
            return result;
        }

        private Noun counted(Noun y, int word) {
            demandCounts(y, word);
            Noun result = bench.blank('i');
            result.addAxesToldBy(y);
            bench.seal(result, word);
            for (int k = 0; k < result.count; k++) {
                result.cells[k] = k;
            }
            return result;
        }

        private Noun shaped(Noun x, Noun y, int word) {
            demandCounts(x, word);
            Noun result = bench.blank(y.sort);
            result.addAxesToldBy(x);
            bench.seal(result, word);
            bench.demand(y.count > 0 || result.count == 0, 'l', word);
            for (int k = 0; k < result.count && y.count > 0; k++) {
                result.cells[k] = y.cells[k % y.count];
            }
            return result;
        }

        private Noun graded(Noun y, int word) {
            bench.demand(y.sort != 'x', 'd', word);
            int items = y.items();
            Noun result = bench.blank('i');
            result.addAxis(items);
            for (int k = 0; k < items; k++) {
                int to = k;
                while (to > 0 && orderOfItems(y, order[to - 1], k) > 0) {
                    order[to] = order[to - 1];
                    to--;
                }
                order[to] = k;
            }
            for (int k = 0; k < items; k++) {
                result.cells[k] = order[k];
            }
            return result;
        }

        private static int orderOfItems(Noun y, int one, int other) {
            int cells = y.itemCells();
            int found = 0;
            for (int k = 0; k < cells && found == 0 && y.count > 0; k++) {
                found = Numbers.order(y.sort, y.cells[one * cells + k], y.cells[other * cells + k]);
            }
            return found;
        }

        private Noun reversed(Noun y, int word) {
            int items = y.items();
            int cells = y.itemCells();
            Noun result = bench.blank(y.sort);
            result.addItems(y, items);
            bench.seal(result, word);
            for (int k = 0; k < items; k++) {
                result.copyCells(y, (items - 1 - k) * cells, k * cells, cells);
            }
            return result;
        }

        private Noun turned(Noun y, long places, int word) {
            int items = y.items();
            int cells = y.itemCells();
            Noun result = bench.blank(y.sort);
            result.addItems(y, items);
            bench.seal(result, word);
            int ahead = items == 0 ? 0 : (int) Math.floorMod(places, (long) items);
            result.copyCells(y, ahead * cells, 0, (items - ahead) * cells);
            result.copyCells(y, 0, (items - ahead) * cells, ahead * cells);
            return result;
        }

        private Noun transposed(Noun y) {
            Noun result = bench.blank(y.sort);
            for (int k = y.axes - 1; k >= 0; k--) {
                result.addAxis(y.lengths[k]);
            }
            for (int cell = 0; cell < y.count; cell++) {
                int rest = cell;
                int to = 0;
                for (int k = y.axes - 1; k >= 0; k--) {
                    int length = Math.max(1, y.lengths[k]);
                    to = to * length + rest % length;
                    rest /= length;
                }
                result.cells[Math.min(to, MOST_CELLS - 1)] = y.cells[cell];
            }
            return result;
        }

        private Noun different(Noun y, int word) {
            int items = y.items();
            int cells = y.count == 0 ? 0 : y.itemCells();
            int kept = 0;
            store.putKeys(y, yKeys);
            for (int k = 0; k < items; k++) {
                boolean isNew = true;
                for (int before = 0; before < kept && isNew; before++) {
                    isNew = !Store.areSameKeys(yKeys, order[before] * cells, yKeys, k * cells, cells);
                }
                if (isNew) {
                    order[kept] = k;
                    kept++;
                }
            }
            Noun result = bench.blank(y.sort);
            result.addItems(y, kept);
            bench.seal(result, word);
            for (int k = 0; k < kept; k++) {
                result.copyCells(y, order[k] * cells, k * cells, cells);
            }
            return result;
        }

        private Noun firstItem(Noun y, int word) {
            Noun item = bench.blank(y.sort);
            if (y.items() > 0) {
                item.takeItem(y, 0);
                return item;
            }
            item.addAxesOf(y, 1);
            bench.seal(item, word);
            return item;
        }

        /** The first items, or the last ones for a number less than 0, filled up with zeros. */
        private Noun first(Noun y, long number, int word) {
            int cells = y.itemCells();
            int items = y.items();
            Noun result = bench.blank(y.sort);
            result.addItems(y, Math.abs(number));
            bench.seal(result, word);
            int wanted = (int) Math.min(Math.abs(number), MOST_CELLS);
            int some = Math.min(wanted, items);
            int from = number < 0 ? items - some : 0;
            int to = number < 0 ? wanted - some : 0;
            result.copyCells(y, from * cells, to * cells, some * cells);
            return result;
        }

        /** All items but the first ones, or but the last ones for a number less than 0. */
        private Noun without(Noun y, long number, int word) {
            int items = y.items();
            int dropped = (int) Math.min(Math.abs(number), items);
            int cells = y.itemCells();
            Noun result = bench.blank(y.sort);
            result.addItems(y, items - dropped);
            bench.seal(result, word);
            result.copyCells(y, number < 0 ? 0 : dropped * cells, 0, (items - dropped) * cells);
            return result;
        }

        private Noun copied(Noun x, Noun y, int word) {
            demandCounts(x, word);
            int items = y.items();
            int cells = y.itemCells();
            bench.demand(x.axes == 0 || x.count == items, 'l', word);
            long total = 0;
            for (int k = 0; k < items; k++) {
                total += x.cells[x.axes == 0 ? 0 : k];
            }
            Noun result = bench.blank(y.sort);
            result.addItems(y, total);
            bench.seal(result, word);
            int to = 0;
            for (int k = 0; k < items; k++) {
                long times = x.cells[x.axes == 0 ? 0 : k];
                for (int copy = 0; copy < Math.min(times, MOST_CELLS); copy++) {
                    result.copyCells(y, k * cells, to * cells, cells);
                    to++;
                }
            }
            return result;
        }

        private Noun joined(Noun x, Noun y, int word) {
            bench.demand((x.sort == 'x') == (y.sort == 'x'), 'd', word);
            Noun model = x.axes > y.axes ? x : y;
            int rank = Math.max(1, model.axes);
            bench.demand(canJoin(x, rank) && canJoin(y, rank), 'r', word);
            bench.demand(hasItemsOf(x, model, rank) && hasItemsOf(y, model, rank), 'l', word);
            Noun result = bench.blank(x.sort == y.sort ? x.sort : 'f');
            int xItems = x.axes == rank ? x.lengths[0] : 1;
            int yItems = y.axes == rank ? y.lengths[0] : 1;
            result.addAxis(xItems + yItems);
            result.addAxesOf(model, 1);
            bench.seal(result, word);
            int cells = model.itemCells();
            appendCells(result, 0, x, xItems * cells);
            appendCells(result, xItems * cells, y, yItems * cells);
            return result;
        }

        private static boolean canJoin(Noun noun, int rank) {
            return noun.axes == 0 || noun.axes >= rank - 1;
        }

        /** Whether a noun is or has items of the shape of the model's ones. */
        private static boolean hasItemsOf(Noun noun, Noun model, int rank) {
            int from = noun.axes == rank ? 1 : 0;
            for (int k = from; k < noun.axes; k++) {
                if (noun.lengths[k] != model.lengths[Math.min(MOST_AXES - 1, k - from + 1)]) {
                    return false;
                }
            }
            return true;
        }

        /** A noun without axes is repeated as often as it must be. */
        private static void appendCells(Noun result, int from, Noun noun, int cells) {
            for (int k = 0; k < cells && from + k < result.count; k++) {
                long cell = noun.cells[noun.axes == 0 ? 0 : k];
                boolean isChanged = result.sort == 'f' && noun.sort == 'i';
                result.cells[from + k] = isChanged ? Numbers.bitsOfWhole(cell) : cell;
            }
        }

        private Noun taken(Noun x, Noun y, int word) {
            bench.demand(x.sort == 'i', 'd', word);
            int items = y.items();
            long index = x.cells[0] < 0 ? x.cells[0] + items : x.cells[0];
            bench.demand(index >= 0 && index < items, 'x', word);
            Noun result = bench.blank(y.sort);
            result.takeItem(y, (int) index);
            return result;
        }

        private Noun found(Noun x, Noun y, int word) {
            int itemRank = Math.max(0, x.axes - 1);
            int frameAxes = Math.max(0, y.axes - itemRank);
            Noun result = bench.blank('i');
            for (int k = 0; k < frameAxes; k++) {
                result.addAxis(y.lengths[k]);
            }
            bench.seal(result, word);
            int cells = x.itemCells();
            boolean canBeSame = y.axes >= itemRank && (cells == 0 || (x.sort == 'x') == (y.sort == 'x'));
            for (int k = 0; k < itemRank && canBeSame; k++) {
                canBeSame = x.lengths[k + 1] == y.lengths[frameAxes + k];
            }
            store.putKeys(x, xKeys);
            store.putKeys(y, yKeys);
            for (int k = 0; k < result.count; k++) {
                result.cells[k] = canBeSame ? placeOf(x.items(), k * cells, cells) : x.items();
            }
            return result;
        }

        /** The first of so many items of x that is the same as the cells of y from one on. */
        private int placeOf(int items, int from, int cells) {
            int place = 0;
            while (place < items && !Store.areSameKeys(xKeys, place * cells, yKeys, from, cells)) {
                place++;
            }
            return place;
        }
    }

    /** Applies verbs of all forms and their inverses, and knows what the names have. */
    private static final class Machine {
        private static final String WITH_INVERSE = "+-%rt[]<>";
        private static final String WITH_INVERSE_BESIDE_NOUN = "+-*%";
        private static final int SETTLED = 10;
        private static final int MOST_TRIES = 50;
        private static final int MOST_NAMES_BEHIND = 100;
        private static final int MOST_LOOKS = 1000000;

        private final Bench bench;
        private final Store store;
        private final Signs signs;
        private final Level[] levels = new Level[MOST_DEPTH + 1];
        private final Verb[] nameVerbs = new Verb[NAMES];
        private final int[] nameNouns = new int[NAMES];
        /** The verbs that are still to be looked at for an inverse, the next one last. */
        private final ArrayList<Verb> toLookAt = new ArrayList<Verb>();
        /** A bit for each name that was looked at. */
        private int namesLookedAt;
        boolean isSpecial = true;

        Machine(Bench bench, Store store, Numbers numbers) {
            this.bench = bench;
            this.store = store;
            signs = new Signs(bench, store, numbers);
            for (int k = 0; k < levels.length; k++) {
                levels[k] = new Level();
            }
            Arrays.fill(nameNouns, -1);
        }

        char hasOf(int name) {
            return nameVerbs[name] != null ? 'v' : nameNouns[name] >= 0 ? 'n' : '-';
        }

        void give(char name, Verb verb, Noun noun) {
            int index = name - 'A';
            if (index >= 0 && index < NAMES) {
                bench.forget();
                nameVerbs[index] = verb;
                nameNouns[index] = verb == null && noun != null ? store.keep(noun) : -1;
            }
        }

        /** The noun that a name has, or null. */
        Noun nounOf(char name) {
            int index = name - 'A';
            boolean isNoun = index >= 0 && index < NAMES && nameNouns[index] >= 0;
            return isNoun ? store.inBox(nameNouns[index]) : null;
        }

        private Verb verbOf(Verb name) {
            int index = name.sign - 'A';
            Verb verb = index >= 0 && index < NAMES ? nameVerbs[index] : null;
            bench.demand(verb != null, 'v', name.word);
            return verb;
        }

        /** Applies a verb, or its inverse if isBack; x is null if there is one argument. */
        private Noun apply(Verb verb, boolean isBack, Noun x, Noun y, int depth) {
            Verb applied = isBack ? behindNames(verb) : verb;
            if (applied.form == Verb.SIGN && depth > MOST_DEPTH) {
                bench.applied++;
            }
            bench.enter(wordOf(applied, isBack), depth);
            long key = 2L * applied.number + (isBack ? 1 : 0);
            Noun known = applied.form == Verb.SIGN ? null : bench.knownResult(key, x, y, depth);
            if (known != null) {
                return known;
            }
            int before = bench.applied;
            int mark = bench.mark();
            Noun result = isBack ? backResult(applied, y, depth) : result(applied, x, y, depth);
            bench.release(mark, result);
            if (bench.applied == before) {
                bench.know(key, x, y, result, depth);
            }
            return result;
        }

        /** A name has the inverse of what it has, and no depth of its own then. */
        private Verb behindNames(Verb verb) {
            Verb found = verb;
            for (int k = 0; k < MOST_NAMES_BEHIND && found.form == Verb.NAME; k++) {
                found = verbOf(found);
            }
            bench.demand(found.form != Verb.NAME, 'm', found.word);
            return found;
        }

        /** A verb that is made for an inverse is at the word of the verb beside the noun. */
        private static int wordOf(Verb verb, boolean isBack) {
            boolean isMade = isBack && (verb.form == Verb.NOUN_LEFT || verb.form == Verb.NOUN_RIGHT);
            return isMade && !isOwnInverse(verb) ? verb.besideNoun().word : verb.word;
        }

        private static boolean isOwnInverse(Verb verb) {
            return verb.form == Verb.NOUN_LEFT && (verb.right.isSign('-') || verb.right.isSign('%'));
        }

        private Noun result(Verb verb, Noun x, Noun y, int depth) {
            switch (verb.form) {
                case Verb.SIGN:
                    return signResult(verb.sign, verb.word, x, y, depth);
                case Verb.NAME:
                    return apply(verbOf(verb), false, x, y, depth + 1);
                case Verb.INSERT:
                    return x == null ? inserted(verb, y, depth) : overCells(tableLevel(verb, x, y, depth), depth);
                case Verb.WINDOWS:
                    return windows(verb, x, y, depth);
                case Verb.SWAP:
                    return apply(verb.left, false, y, x == null ? y : x, depth + 1);
                case Verb.ATOP:
                    return apply(verb.left, false, null, apply(verb.right, false, x, y, depth + 1), depth + 1);
                case Verb.BOTH:
                    return ofBoth(verb, x, y, depth);
                case Verb.NOUN_LEFT:
                case Verb.NOUN_RIGHT:
                    return besideNoun(verb, x, y, depth);
                case Verb.RANKED:
                    return overCells(rankedLevel(verb, false, x, y, depth), depth);
                case Verb.POWER:
                    return power(verb, verb.times, x, y, depth);
                case Verb.UNDER:
                    Noun changed = ofBoth(verb, x, y, depth);
                    demandInverse(verb.right);
                    return apply(verb.right, true, null, changed, depth + 1);
                default:
                    return train(verb, x, y, depth);
            }
        }

        /** What the inverse of a verb makes; demandInverse has seen that it has one. */
        private Noun backResult(Verb verb, Noun y, int depth) {
            switch (verb.form) {
                case Verb.SIGN:
                    char inverse = verb.sign == '<' ? '>' : verb.sign == '>' ? '<' : verb.sign;
                    return signResult(inverse, verb.word, null, y, depth);
                case Verb.ATOP:
                case Verb.BOTH:
                    return apply(verb.right, true, null, apply(verb.left, true, null, y, depth + 1), depth + 1);
                case Verb.RANKED:
                    return overCells(rankedLevel(verb, true, null, y, depth), depth);
                case Verb.POWER:
                    return power(verb, -verb.times, null, y, depth);
                default:
                    return besideNounBack(verb, y, depth);
            }
        }

        private Level levelAt(int depth) {
            return levels[Math.max(0, Math.min(depth, MOST_DEPTH))];
        }

        private Noun signResult(char sign, int word, Noun x, Noun y, int depth) {
            Level level = levelAt(depth);
            int xRank = x == null ? 0 : Verb.cellRank(Signs.rankOfLeft(sign), x);
            int yRank = Verb.cellRank(x == null ? Signs.rankOfOne(sign) : Signs.rankOfRight(sign), y);
            level.applySign(sign, word);
            bench.demand(level.split(x, y, xRank, yRank), 'l', word);
            if (level.frameCells > 0 && Signs.isNumeric(sign, x != null)) {
                return signs.numericCells(sign, word, x, y);
            }
            return overCells(level, depth);
        }

        private Level rankedLevel(Verb verb, boolean isBack, Noun x, Noun y, int depth) {
            Level level = levelAt(depth);
            int xRank = x == null ? 0 : Verb.cellRank(verb.rankOfLeft, x);
            int yRank = Verb.cellRank(x == null ? verb.rankOfOne : verb.rankOfRight, y);
            level.applyVerb(verb.left, isBack, verb.word);
            bench.demand(level.split(x, y, xRank, yRank), 'l', verb.word);
            return level;
        }

        private Level tableLevel(Verb verb, Noun x, Noun y, int depth) {
            Level level = levelAt(depth);
            Verb cells = verb.left;
            int rank = cells.form == Verb.SIGN ? Signs.rankOfLeft(cells.sign) : cells.rankOfLeft;
            level.applyVerb(cells, false, verb.word);
            bench.demand(level.split(x, y, Verb.cellRank(rank, x), y.axes), 'l', verb.word);
            return level;
        }

        /** Applies what the level tells to each cell. */
        private Noun overCells(Level level, int depth) {
            if (level.frameCells == 0) {
                Noun zeroX = level.zeroCell(bench, true);
                return overNoCells(level, zeroX, level.zeroCell(bench, false), depth);
            }
            level.dropResults();
            for (int k = 0; k < level.frameCells; k++) {
                int mark = bench.mark();
                Noun x = level.cellAt(bench, true, k);
                Noun result = once(level, x, level.cellAt(bench, false, k), depth);
                if (!level.hasFrame()) {
                    return result;
                }
                bench.release(mark, result);
                level.addResult(result);
            }
            return level.together(bench);
        }

        private Noun once(Level level, Noun x, Noun y, int depth) {
            if (level.verb != null) {
                return apply(level.verb, level.isBack, x, y, depth + 1);
            }
            if (Signs.isNumeric(level.sign, x != null)) {
                return signs.numericCells(level.sign, level.word, x, y);
            }
            return x == null ? signs.ofOne(level.sign, level.word, y) : signs.ofTwo(level.sign, level.word, x, y);
        }

        /** For a frame without cells, arguments of zeros tell the shape and the kind. */
        private Noun overNoCells(Level level, Noun x, Noun y, int depth) {
            boolean isWrong = false;
            level.dropResults();
            try {
                level.addResult(once(level, x, y, depth));
            } catch (IllegalStateException stopped) {
                isWrong = true;
            }
            bench.demand(!isWrong || bench.wrong != 'm', 'm', bench.wrongWord);
            return level.together(bench);
        }

        private Noun inserted(Verb verb, Noun y, int depth) {
            if (isKnown(verb, y)) {
                return special(verb.left.sign, y, verb.word, false);
            }
            int items = y.items();
            if (items == 0) {
                return insertedInNone(verb, y);
            }
            int mark = bench.mark();
            Noun result = bench.blank(y.sort);
            result.takeItem(y, items - 1);
            for (int k = items - 2; k >= 0; k--) {
                Noun item = bench.blank(y.sort);
                item.takeItem(y, k);
                result = apply(verb.left, false, item, result, depth + 1);
                bench.release(mark, result);
            }
            return result;
        }

        private Noun insertedInNone(Verb verb, Noun y) {
            boolean isProduct = verb.left.isSign('*');
            bench.demand(isProduct || verb.left.isSign('+'), 'd', verb.word);
            Noun result = bench.blank('i');
            result.addAxesOf(y, 1);
            bench.seal(result, verb.word);
            for (int k = 0; k < result.count; k++) {
                result.cells[k] = isProduct ? 1 : 0;
            }
            return result;
        }

        /** Whether special code is to do this insert, and no result of it, nor on the way, can be out of range. */
        private boolean isKnown(Verb insert, Noun y) {
            boolean isPhrase = insert.form == Verb.INSERT && (insert.left.isSign('+') || insert.left.isSign('*'));
            if (!isSpecial || !isPhrase || y.axes != 1 || y.sort != 'i' || y.count == 0) {
                return false;
            }
            boolean isProduct = insert.left.sign == '*';
            long most = isProduct ? 1 : 0;
            for (int k = 0; k < y.count && most <= MOST_WHOLE; k++) {
                long size = Math.abs(y.cells[k]);
                most = isProduct ? most * Math.max(1, size) : most + size;
            }
            return most <= MOST_WHOLE;
        }

        private Noun special(char sign, Noun y, int word, boolean isRunning) {
            bench.countApplication(word);
            bench.specialTimes++;
            bench.paid += 2L * y.count;
            Noun result = bench.blank('i');
            if (isRunning) {
                result.addAxis(y.count);
            }
            bench.seal(result, word);
            long total = sign == '*' ? 1 : 0;
            for (int k = 0; k < y.count; k++) {
                total = sign == '*' ? total * y.cells[k] : total + y.cells[k];
                result.cells[isRunning ? k : 0] = total;
            }
            return result;
        }

        private Noun windows(Verb verb, Noun x, Noun y, int depth) {
            if (x == null && isKnown(verb.left, y)) {
                return special(verb.left.left.sign, y, verb.word, true);
            }
            long width = x == null ? 0 : widthOf(x, verb.word);
            int items = y.items();
            int lists = x == null ? items : (int) Math.max(0, items - width + 1);
            Level level = levelAt(depth);
            level.applyVerb(verb.left, false, verb.word);
            level.frameOf(lists);
            if (lists == 0) {
                Noun none = bench.blank(y.sort);
                none.addItems(y, width);
                bench.seal(none, verb.word);
                return overNoCells(level, null, none, depth);
            }
            level.dropResults();
            for (int k = 0; k < lists; k++) {
                int mark = bench.mark();
                Noun list = bench.someItems(y, x == null ? 0 : k, x == null ? k + 1 : (int) width, verb.word);
                Noun result = apply(verb.left, false, null, list, depth + 1);
                bench.release(mark, result);
                level.addResult(result);
            }
            return level.together(bench);
        }

        private long widthOf(Noun x, int word) {
            bench.demand(x.sort == 'i', 'd', word);
            bench.demand(x.axes == 0, 'r', word);
            bench.demand(x.cells[0] >= 1, 'd', word);
            return x.cells[0];
        }

        private Noun ofBoth(Verb verb, Noun x, Noun y, int depth) {
            Noun right = apply(verb.right, false, null, y, depth + 1);
            Noun left = x == null ? null : apply(verb.right, false, null, x, depth + 1);
            return apply(verb.left, false, left, right, depth + 1);
        }

        private Noun besideNoun(Verb verb, Noun x, Noun y, int depth) {
            bench.demand(x == null, 'd', verb.word);
            Noun noun = store.inBox(verb.noun);
            if (verb.form == Verb.NOUN_LEFT) {
                return apply(verb.right, false, noun, y, depth + 1);
            }
            return apply(verb.left, false, y, noun, depth + 1);
        }

        private Noun besideNounBack(Verb verb, Noun y, int depth) {
            if (isOwnInverse(verb)) {
                return besideNoun(verb, null, y, depth);
            }
            Verb sign = verb.besideNoun();
            char inverse = sign.isSign('+') ? '-' : sign.isSign('-') ? '+' : sign.isSign('*') ? '%' : '*';
            if (depth + 1 > MOST_DEPTH) {
                bench.applied++;
            }
            bench.enter(sign.word, depth + 1);
            return signResult(inverse, sign.word, y, store.inBox(verb.noun), depth + 1);
        }

        private Noun train(Verb verb, Noun x, Noun y, int depth) {
            if (verb.form == Verb.HOOK) {
                Noun changed = apply(verb.right, false, null, y, depth + 1);
                return apply(verb.left, false, x == null ? y : x, changed, depth + 1);
            }
            Noun right = apply(verb.right, false, x, y, depth + 1);
            Noun left = verb.form == Verb.NOUN_FORK ? store.inBox(verb.noun) : apply(verb.left, false, x, y, depth + 1);
            return apply(verb.middle, false, left, right, depth + 1);
        }

        private Noun power(Verb verb, int times, Noun x, Noun y, int depth) {
            boolean isBack = times < 0;
            if (isBack) {
                bench.demand(x == null, 'd', verb.word);
                demandInverse(verb.left);
            }
            int tries = times == SETTLED ? MOST_TRIES : Math.abs(times);
            boolean isSettled = false;
            int mark = bench.mark();
            Noun result = y;
            for (int k = 0; k < tries && !isSettled; k++) {
                Noun next = apply(verb.left, isBack, x, result, depth + 1);
                isSettled = times == SETTLED && store.isSame(result, next);
                bench.release(mark, next);
                result = next;
            }
            bench.demand(isSettled || times != SETTLED, 'm', verb.word);
            return result;
        }

        /** Ends the line if a verb has no inverse. Looking for it applies nothing, so it may be ever so far down. */
        private void demandInverse(Verb verb) {
            toLookAt.clear();
            namesLookedAt = 0;
            lookForInverse(verb, 0);
        }

        /**
         * Looks at a verb and the verbs in it, of u@v and u&v at u first. Answers false if this leads back into a name
         * around it: there is no end of looking then, and applying goes on until it is too deep or wrong.
         */
        private boolean lookForInverse(Verb verb, int namesAround) {
            int before = toLookAt.size();
            boolean hasEnd = true;
            toLookAt.add(verb);
            for (int k = 0; k < MOST_LOOKS && hasEnd && toLookAt.size() > before; k++) {
                Verb next = toLookAt.remove(toLookAt.size() - 1);
                int name = next.form == Verb.NAME ? 1 << Math.floorMod(next.sign - 'A', NAMES) : 0;
                hasEnd = (namesAround & name) == 0;
                if (hasEnd && name != 0 && (namesLookedAt & name) == 0) {
                    hasEnd = lookForInverse(verbOf(next), namesAround | name);
                    namesLookedAt |= name;
                } else if (name == 0) {
                    demandOwnInverse(next);
                    lookIntoParts(next);
                }
            }
            return hasEnd;
        }

        private void lookIntoParts(Verb verb) {
            boolean hasTwo = verb.form == Verb.ATOP || verb.form == Verb.BOTH;
            if (hasTwo) {
                toLookAt.add(verb.right);
            }
            if (hasTwo || verb.form == Verb.RANKED) {
                toLookAt.add(verb.left);
            }
        }

        /** Ends the line if a verb, whatever the verbs in it are, has no inverse. */
        private void demandOwnInverse(Verb verb) {
            boolean hasInverse = verb.form == Verb.ATOP || verb.form == Verb.BOTH || verb.form == Verb.RANKED;
            switch (verb.form) {
                case Verb.SIGN:
                    hasInverse = WITH_INVERSE.indexOf(verb.sign) >= 0;
                    break;
                case Verb.NOUN_LEFT:
                case Verb.NOUN_RIGHT:
                    Verb beside = verb.besideNoun();
                    hasInverse = beside.form == Verb.SIGN && WITH_INVERSE_BESIDE_NOUN.indexOf(beside.sign) >= 0;
                    break;
                case Verb.POWER:
                    hasInverse = verb.times != SETTLED;
                    break;
                default:
                    break;
            }
            bench.demand(hasInverse, 'n', verb.word);
        }
    }

    /** The characters that are typed, and the words that they make. */
    private static final class Line {
        private static final String VERBS = "+-*%|=<>#$,{igrtnhe[]";
        private static final String ADVERBS = "/\\~";
        private static final String CONJUNCTIONS = "@&\"^U";
        private static final int BITS_LENGTH = 16;

        private final char[] characters = new char[LINE_ROOM];
        int typed;
        /** What each word is, as wordAt tells it. */
        final char[] sorts = new char[LINE_ROOM];
        private final int[] starts = new int[LINE_ROOM];
        private final int[] ends = new int[LINE_ROOM];
        /** The number of words ahead of the first one that is wrong. */
        int rightWords;
        boolean isWrong;

        boolean isFull() {
            return typed >= LINE_ROOM;
        }

        void add(char character) {
            if (typed < LINE_ROOM) {
                characters[typed] = character;
                typed++;
            }
        }

        void clear() {
            typed = 0;
        }

        private char at(int place) {
            return place >= 0 && place < typed ? characters[place] : ' ';
        }

        /** The first character of a word. */
        char signOf(int word) {
            return word >= 0 && word < rightWords ? at(starts[word]) : ' ';
        }

        void cut() {
            rightWords = 0;
            isWrong = false;
            int place = behindBlanks(0);
            while (place < typed && rightWords < LINE_ROOM && !isWrong) {
                boolean isNumber = isNumberAt(place);
                int end = isNumber ? endOfList(place) : place + 1;
                char sort = isNumber ? 'n' : sortOf(at(place));
                isWrong = end < 0 || sort == ' ';
                if (!isWrong) {
                    sorts[rightWords] = sort;
                    starts[rightWords] = place;
                    ends[rightWords] = end;
                    rightWords++;
                    place = behindBlanks(end);
                }
            }
        }

        private static char sortOf(char character) {
            if (VERBS.indexOf(character) >= 0) {
                return 'v';
            }
            if (ADVERBS.indexOf(character) >= 0) {
                return 'a';
            }
            if (CONJUNCTIONS.indexOf(character) >= 0) {
                return 'c';
            }
            if (character >= 'A' && character < 'A' + NAMES) {
                return 'w';
            }
            return character == ':' || character == '(' || character == ')' ? character : ' ';
        }

        private int behindBlanks(int from) {
            int place = from;
            while (place < typed && at(place) == ' ') {
                place++;
            }
            return place;
        }

        private static boolean isDigit(char character) {
            return character >= '0' && character <= '9';
        }

        private static int hexDigit(char character) {
            return isDigit(character) ? character - '0' : character >= 'a' && character <= 'f' ? character - 'a' + 10 : -1;
        }

        private boolean isNumberAt(int place) {
            char first = at(place);
            return isDigit(first) || first == '_' && isDigit(at(place + 1)) || first == '#' && hasBitsBehind(place);
        }

        private boolean hasBitsBehind(int place) {
            boolean hasBits = true;
            for (int k = 1; k <= BITS_LENGTH && hasBits; k++) {
                hasBits = hexDigit(at(place + k)) >= 0;
            }
            return hasBits;
        }

        /** The place behind the list of numbers that starts at a place, or -1 if the list is wrong. */
        private int endOfList(int from) {
            int end = from;
            int next = from;
            for (int k = 0; k < LINE_ROOM && isNumberAt(next); k++) {
                end = endOfNumber(next);
                if (end < 0 || isTail(at(end))) {
                    return -1;
                }
                next = behindBlanks(end);
            }
            return end;
        }

        /** Whether a character must not stand right behind a number. */
        private static boolean isTail(char character) {
            boolean isLetter = character >= 'a' && character <= 'z' || character >= 'A' && character <= 'Z';
            return isDigit(character) || isLetter || character == '_';
        }

        /** The place behind a number, or -1 if it is out of range. */
        private int endOfNumber(int from) {
            if (at(from) == '#') {
                return from + 1 + BITS_LENGTH;
            }
            boolean isNegative = at(from) == '_';
            long size = 0;
            int place = isNegative ? from + 1 : from;
            while (place < typed && isDigit(at(place)) && size <= MOST_WHOLE + 1) {
                size = size * 10 + at(place) - '0';
                place++;
            }
            return size > (isNegative ? MOST_WHOLE + 1 : MOST_WHOLE) ? -1 : place;
        }

        private long valueAt(int from) {
            if (at(from) == '#') {
                long bits = 0;
                for (int k = 1; k <= BITS_LENGTH; k++) {
                    bits = bits << 4 | hexDigit(at(from + k));
                }
                return Numbers.canonical(bits);
            }
            boolean isNegative = at(from) == '_';
            long size = 0;
            for (int place = isNegative ? from + 1 : from; place < typed && isDigit(at(place)); place++) {
                size = size * 10 + at(place) - '0';
            }
            return isNegative ? -size : size;
        }

        private int nextNumber(int from) {
            return behindBlanks(Math.max(from + 1, endOfNumber(from)));
        }

        /** The noun that a word of numbers is. */
        Noun nounOf(int word, Bench bench) {
            int start = word >= 0 && word < rightWords ? starts[word] : 0;
            int end = word >= 0 && word < rightWords ? ends[word] : 0;
            int count = 0;
            char sort = 'i';
            int place = start;
            while (place < end && count < LINE_ROOM) {
                sort = at(place) == '#' ? 'f' : sort;
                count++;
                place = nextNumber(place);
            }
            Noun noun = bench.blank(sort);
            if (count > 1) {
                noun.addAxis(count);
            }
            bench.seal(noun, word);
            place = start;
            for (int k = 0; k < noun.count; k++) {
                long value = valueAt(place);
                noun.cells[k] = sort == 'f' && at(place) != '#' ? Numbers.bitsOfWhole(value) : value;
                place = nextNumber(place);
            }
            return noun;
        }
    }

    /** Puts the words of a line together on a stack. */
    private static final class Sentence {
        private static final char MARK = 'm';
        /** The mark is moved behind the word 0. */
        private static final int MARK_WORD = -1;
        private static final int STACK_ROOM = LINE_ROOM + 1;
        private static final int MOST_STEPS = 1000;
        private static final int FAR_RANK = 1000;

        private final Line line;
        private final Bench bench;
        private final Store store;
        private final Machine machine;
        /** The stack; its first thing is at the end. */
        private final char[] sorts = new char[STACK_ROOM];
        private final Noun[] nouns = new Noun[STACK_ROOM];
        private final Verb[] verbs = new Verb[STACK_ROOM];
        private final int[] words = new int[STACK_ROOM];
        private int things;
        private int madeVerbs;

        Sentence(Line line, Bench bench, Store store, Machine machine) {
            this.line = line;
            this.bench = bench;
            this.store = store;
            this.machine = machine;
        }

        /** Runs the line: 'n' if it answers a noun, 'v' a verb, '-' nothing. */
        char answer() {
            line.cut();
            bench.demand(!line.isWrong, 's', line.rightWords);
            if (line.rightWords == 0) {
                return '-';
            }
            things = 0;
            int word = line.rightWords - 1;
            boolean isReady = false;
            for (int k = 0; k < MOST_STEPS && !isReady; k++) {
                int pattern = pattern();
                if (pattern > 0) {
                    perform(pattern);
                } else if (word >= MARK_WORD) {
                    move(word);
                    word--;
                } else {
                    isReady = true;
                }
            }
            bench.demand(things == 2 && isValue(1), 's', 0);
            return sortAt(1);
        }

        Noun answeredNoun() {
            return nounAt(1);
        }

        private void move(int word) {
            char sort = word == MARK_WORD ? MARK : line.sorts[word];
            char sign = line.signOf(word);
            Noun noun = null;
            Verb verb = null;
            if (sort == 'n') {
                noun = line.nounOf(word, bench);
            } else if (sort == 'v') {
                verb = newVerb(Verb.SIGN, sign, word);
            } else if (sort == 'w' && sortAt(0) != ':') {
                noun = machine.nounOf(sign);
                verb = noun == null ? newVerb(Verb.NAME, sign, word) : null;
                sort = noun == null ? 'v' : 'n';
            }
            push(sort, noun, verb, word);
        }

        private void push(char sort, Noun noun, Verb verb, int word) {
            if (things < STACK_ROOM) {
                sorts[things] = sort;
                nouns[things] = noun;
                verbs[things] = verb;
                words[things] = word;
                things++;
            }
        }

        private Verb newVerb(char form, char sign, int word) {
            madeVerbs++;
            return new Verb(form, sign, word, madeVerbs);
        }

        /** The sort of the thing at a place from the first one on, or ' ' if there is none. */
        private char sortAt(int place) {
            return place < things ? sorts[things - 1 - place] : ' ';
        }

        private Noun nounAt(int place) {
            return place < things ? nouns[things - 1 - place] : null;
        }

        private Verb verbAt(int place) {
            return place < things ? verbs[things - 1 - place] : null;
        }

        private int wordAtPlace(int place) {
            return place < things ? words[things - 1 - place] : 0;
        }

        private boolean isValue(int place) {
            return sortAt(place) == 'n' || sortAt(place) == 'v';
        }

        /** The number of the first pattern that fits, or 0. */
        private int pattern() {
            char first = sortAt(0);
            char second = sortAt(1);
            char third = sortAt(2);
            char fourth = sortAt(3);
            boolean isEdge = first == MARK || first == ':' || first == '(';
            boolean isAhead = isEdge || first == 'a' || first == 'v' || first == 'n';
            if (isEdge && second == 'v' && third == 'n') {
                return 1;
            }
            if (isAhead && second == 'v' && third == 'v' && fourth == 'n') {
                return 2;
            }
            if (isAhead && second == 'n' && third == 'v' && fourth == 'n') {
                return 3;
            }
            if (isAhead && isValue(1) && third == 'a') {
                return 4;
            }
            if (isAhead && isValue(1) && third == 'c' && isValue(3)) {
                return 5;
            }
            if (isAhead && isValue(1) && third == 'v' && fourth == 'v') {
                return 6;
            }
            if (isEdge && second == 'v' && third == 'v') {
                return 7;
            }
            if (first == 'w' && second == ':' && isValue(2)) {
                return 8;
            }
            return first == '(' && isValue(1) && third == ')' ? 9 : 0;
        }

        private void perform(int pattern) {
            switch (pattern) {
                case 1:
                    replace(1, 2, machine.apply(verbAt(1), false, null, nounAt(2), 1), null);
                    break;
                case 2:
                    replace(2, 2, machine.apply(verbAt(2), false, null, nounAt(3), 1), null);
                    break;
                case 3:
                    replace(1, 3, machine.apply(verbAt(2), false, nounAt(1), nounAt(3), 1), null);
                    break;
                case 4:
                    replace(1, 2, null, byAdverb());
                    break;
                case 5:
                    replace(1, 3, null, byConjunction());
                    break;
                case 6:
                    replace(1, 3, null, fork());
                    break;
                case 7:
                    replace(1, 2, null, hook());
                    break;
                case 8:
                    machine.give(line.signOf(wordAtPlace(0)), verbAt(2), nounAt(2));
                    replace(0, 3, nounAt(2), verbAt(2));
                    break;
                default:
                    replace(0, 3, nounAt(1), verbAt(1));
                    break;
            }
        }

        /** Puts a noun or a verb in the place of some things that stand side by side. */
        private void replace(int place, int count, Noun noun, Verb verb) {
            int to = things - place - count;
            if (to < 0 || count < 1) {
                return;
            }
            sorts[to] = verb == null ? 'n' : 'v';
            nouns[to] = noun;
            verbs[to] = verb;
            for (int from = things - place; from < things; from++) {
                to++;
                sorts[to] = sorts[from];
                nouns[to] = nouns[from];
                verbs[to] = verbs[from];
                words[to] = words[from];
            }
            things = to + 1;
        }

        private Verb byAdverb() {
            int word = wordAtPlace(2);
            Verb made = newVerb(line.signOf(word), ' ', word);
            made.left = verbAt(1);
            bench.demand(made.left != null, 'd', word);
            return made;
        }

        private Verb byConjunction() {
            int word = wordAtPlace(2);
            char sign = line.signOf(word);
            Verb left = verbAt(1);
            Verb right = verbAt(3);
            if (sign == '&' && (left == null || right == null)) {
                return withNoun(left, right, word);
            }
            Verb made = newVerb(sign, ' ', word);
            made.left = left;
            made.right = right;
            bench.demand(left != null, 'd', word);
            if (sign == '"' || sign == '^') {
                readNumbers(made, nounAt(3));
            } else {
                bench.demand(right != null, 'd', word);
            }
            return made;
        }

        private Verb withNoun(Verb left, Verb right, int word) {
            bench.demand(left != null || right != null, 'd', word);
            Verb made = newVerb(left == null ? Verb.NOUN_LEFT : Verb.NOUN_RIGHT, ' ', word);
            made.left = left;
            made.right = right;
            made.noun = store.keep(left == null ? nounAt(1) : nounAt(3));
            return made;
        }

        /** Reads the noun of u"n or u^n, which is null if there is a verb in its place. */
        private void readNumbers(Verb made, Noun noun) {
            bench.demand(noun != null && noun.sort == 'i', 'd', made.word);
            if (noun == null) {
                return;
            }
            if (made.form == Verb.POWER) {
                bench.demand(noun.axes == 0, 'r', made.word);
                long times = noun.cells[0];
                bench.demand(times >= -9 && times <= 10, 'd', made.word);
                made.times = (int) times;
                return;
            }
            int count = noun.count;
            bench.demand(noun.axes <= 1, 'r', made.word);
            bench.demand(count >= 1 && count <= 3, 'l', made.word);
            made.rankOfLeft = rankOf(noun.cells[count == 3 ? 1 : 0]);
            made.rankOfRight = rankOf(noun.cells[count - 1]);
            made.rankOfOne = count == 3 ? rankOf(noun.cells[0]) : made.rankOfRight;
        }

        private static int rankOf(long number) {
            return (int) Math.max(-FAR_RANK, Math.min(FAR_RANK, number));
        }

        private Verb fork() {
            Verb middle = verbAt(2);
            Verb left = verbAt(1);
            Verb made = newVerb(left == null ? Verb.NOUN_FORK : Verb.FORK, ' ', middle == null ? 0 : middle.word);
            made.left = left;
            made.middle = middle;
            made.right = verbAt(3);
            if (left == null) {
                made.noun = store.keep(nounAt(1));
            }
            return made;
        }

        private Verb hook() {
            Verb left = verbAt(1);
            Verb made = newVerb(Verb.HOOK, ' ', left == null ? 0 : left.word);
            made.left = left;
            made.right = verbAt(2);
            return made;
        }
    }
}
