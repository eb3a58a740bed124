import java.util.ArrayList;
import java.util.Arrays;
import java.util.List;

/**
 * Runs many made-up lines on RankTrain and on a second, slow and plain reading of the document, and compares every
 * answer. The lines come from a fixed sequence of numbers, so that each run of the test is the same.
 */
public final class PlainComparison {
    static int wrong = 0;
    static int compared = 0;

    // ---- the plain reading

    static final class Stop extends RuntimeException {
        final char error;
        final int word;

        Stop(char error, int word) {
            super(null, null, false, false);
            this.error = error;
            this.word = word;
        }
    }

    /** Looking for an inverse came back to a name around it. */
    static final class Endless extends RuntimeException {
        Endless() {
            super(null, null, false, false);
        }
    }

    /** Cells are Integer, Double or Arr. */
    static final class Arr {
        final char kind;
        final int[] shape;
        final Object[] cells;

        Arr(char kind, int[] shape, Object[] cells) {
            this.kind = kind;
            this.shape = shape;
            this.cells = cells;
        }

        int items() {
            return shape.length == 0 ? 1 : shape[0];
        }

        int[] itemShape() {
            return shape.length == 0 ? shape : Arrays.copyOfRange(shape, 1, shape.length);
        }

        Arr item(int k) {
            int n = product(itemShape());
            return new Arr(kind, itemShape(), Arrays.copyOfRange(cells, k * n, k * n + n));
        }

        Arr asList() {
            return shape.length > 0 ? this : new Arr(kind, new int[] {1}, cells);
        }

        String key() {
            StringBuilder b = new StringBuilder();
            b.append(kind).append(Arrays.toString(shape));
            for (Object c : cells) {
                if (c instanceof Arr) {
                    b.append('(').append(((Arr) c).key()).append(')');
                } else if (c instanceof Double) {
                    b.append(Double.doubleToLongBits((Double) c)).append(';');
                } else {
                    b.append(c).append(';');
                }
            }
            return b.toString();
        }
    }

    static final Arr EMPTY = new Arr('i', new int[] {0}, new Object[0]);

    static int product(int[] shape) {
        int p = 1;
        for (int s : shape) {
            p *= s;
        }
        return p;
    }

    static Object zero(char kind) {
        return kind == 'i' ? (Object) 0 : kind == 'f' ? (Object) 0.0 : EMPTY;
    }

    static void fits(int[] shape, int word) {
        if (shape.length > 3) {
            throw new Stop('m', word);
        }
        long p = 1;
        for (int s : shape) {
            if (s > 64) {
                throw new Stop('m', word);
            }
            p *= s;
        }
        if (p > 64) {
            throw new Stop('m', word);
        }
    }

    static Arr zeros(char kind, int[] shape, int word) {
        fits(shape, word);
        Object[] cells = new Object[product(shape)];
        Arrays.fill(cells, zero(kind));
        return new Arr(kind, shape, cells);
    }

    static int[] cat(int[] a, int... b) {
        int[] r = Arrays.copyOf(a, a.length + b.length);
        System.arraycopy(b, 0, r, a.length, b.length);
        return r;
    }

    static int[] head(int[] a, int n) {
        return Arrays.copyOfRange(a, 0, n);
    }

    static int[] tail(int[] a, int from) {
        return Arrays.copyOfRange(a, from, a.length);
    }

    static double dbl(Object o) {
        return o instanceof Double ? (Double) o : (double) (Integer) o;
    }

    static Object num(long v) {
        return v >= Integer.MIN_VALUE && v <= Integer.MAX_VALUE ? (Object) (int) v : (Object) (double) v;
    }

    static boolean sameCell(Object a, Object b) {
        if (a instanceof Arr || b instanceof Arr) {
            return a instanceof Arr && b instanceof Arr && same((Arr) a, (Arr) b);
        }
        return dbl(a) == dbl(b);
    }

    static boolean same(Arr a, Arr b) {
        if (!Arrays.equals(a.shape, b.shape)) {
            return false;
        }
        for (int k = 0; k < a.cells.length; k++) {
            if (!sameCell(a.cells[k], b.cells[k])) {
                return false;
            }
        }
        return true;
    }

    static int boxDepth(Arr a) {
        int d = 0;
        for (Object c : a.cells) {
            if (c instanceof Arr) {
                d = Math.max(d, 1 + boxDepth((Arr) c));
            }
        }
        return d;
    }

    static Arr together(int[] frame, List<Arr> results, int word) {
        int rank = 0;
        boolean box = false;
        boolean number = false;
        boolean dbl = false;
        for (Arr r : results) {
            rank = Math.max(rank, r.shape.length);
            box |= r.kind == 'x';
            number |= r.kind != 'x';
            dbl |= r.kind == 'f';
        }
        if (box && number) {
            throw new Stop('d', word);
        }
        char kind = box ? 'x' : dbl ? 'f' : 'i';
        int[] most = new int[rank];
        for (Arr r : results) {
            int[] s = padded(r.shape, rank);
            for (int k = 0; k < rank; k++) {
                most[k] = Math.max(most[k], s[k]);
            }
        }
        Arr all = zeros(kind, cat(frame, most), word);
        int block = product(most);
        int at = 0;
        for (Arr r : results) {
            if (all.cells.length == 0) {
                break;
            }
            int[] s = padded(r.shape, rank);
            int[] index = new int[rank];
            for (Object c : r.cells) {
                int to = 0;
                for (int k = 0; k < rank; k++) {
                    to = to * most[k] + index[k];
                }
                all.cells[at + to] = kind == 'f' ? (Object) dbl(c) : c;
                for (int k = rank - 1; k >= 0; k--) {
                    index[k]++;
                    if (index[k] < s[k]) {
                        break;
                    }
                    index[k] = 0;
                }
            }
            at += block;
        }
        return all;
    }

    static int[] padded(int[] shape, int rank) {
        int[] r = new int[rank];
        Arrays.fill(r, 1);
        System.arraycopy(shape, 0, r, rank - shape.length, shape.length);
        return r;
    }

    static final class Plain {
        boolean special = true;
        String typed = "";
        final Object[] names = new Object[6];
        char answer = ' ';
        Arr noun;
        char error;
        int errorAt;
        int applications;
        long cost;
        int specials;
        long costs;
        int lines;
        int wrongLines;
        final List<String> answered = new ArrayList<>();
        final List<String> different = new ArrayList<>();

        // words

        final List<String> words = new ArrayList<>();
        boolean isWrong;

        void cut(String line) {
            words.clear();
            isWrong = false;
            int p = 0;
            while (true) {
                while (p < line.length() && line.charAt(p) == ' ') {
                    p++;
                }
                if (p == line.length()) {
                    return;
                }
                int start = p;
                int end = number(line, p);
                if (end == p) {
                    if ("+-*%|=<>#$,{igrtnhe[]/\\~@&\"^UABCDEF:()".indexOf(line.charAt(p)) < 0) {
                        isWrong = true;
                        return;
                    }
                    words.add(line.substring(p, p + 1));
                    p++;
                    continue;
                }
                StringBuilder list = new StringBuilder();
                while (end > p) {
                    if (end < line.length() && (Character.isLetterOrDigit(line.charAt(end)) || line.charAt(end) == '_')) {
                        isWrong = true;
                        return;
                    }
                    list.append(list.length() > 0 ? " " : "").append(line, p, end);
                    p = end;
                    int q = p;
                    while (q < line.length() && line.charAt(q) == ' ') {
                        q++;
                    }
                    if (q == line.length()) {
                        break;
                    }
                    end = number(line, q);
                    if (end > q) {
                        p = q;
                    } else {
                        end = p;
                    }
                }
                words.add(list.toString());
                if (start == p) {
                    throw new IllegalStateException("no way on");
                }
            }
        }

        /** The place behind the longest number in range at a place, or the place itself. */
        int number(String line, int p) {
            String rest = line.substring(p);
            if (rest.matches("#[0-9a-f]{16}.*")) {
                return p + 17;
            }
            if (!rest.matches("_?[0-9].*")) {
                return p;
            }
            int end = p + (rest.charAt(0) == '_' ? 2 : 1);
            while (end < line.length() && Character.isDigit(line.charAt(end))
                && new java.math.BigInteger(line.substring(p, end + 1).replace('_', '-')).bitLength() <= 31) {
                end++;
            }
            return end;
        }

        Arr literal(String word) {
            String[] parts = word.split(" ");
            boolean isDouble = word.indexOf('#') >= 0;
            Object[] cells = new Object[parts.length];
            for (int k = 0; k < parts.length; k++) {
                Object v = parts[k].charAt(0) == '#' ? (Object) Double.longBitsToDouble(Long.parseUnsignedLong(parts[k].substring(1), 16))
                    : (Object) Integer.parseInt(parts[k].replace('_', '-'));
                cells[k] = isDouble ? (Object) dbl(v) : v;
            }
            return new Arr(isDouble ? 'f' : 'i', parts.length == 1 ? new int[0] : new int[] {parts.length}, cells);
        }

        static char sortOf(String word) {
            char c = word.charAt(0);
            if (Character.isDigit(c) || c == '_' || word.length() > 1) {
                return 'n';
            }
            return "/\\~".indexOf(c) >= 0 ? 'a' : "@&\"^U".indexOf(c) >= 0 ? 'c' : c >= 'A' && c <= 'F' ? 'w' : ":()".indexOf(c) >= 0 ? c : 'v';
        }

        // verbs

        abstract class Verb {
            final int word;

            Verb(int word) {
                this.word = word;
            }

            abstract Arr act(Arr x, Arr y, int depth);

            /** The inverse, when it is needed: all that it is made of is looked for then, but nothing is applied. */
            final Verb inverse() {
                try {
                    look(new ArrayList<>());
                } catch (Endless e) {
                    // What has no end is applied until it is too deep or wrong.
                }
                return new Undone(this);
            }

            /** Looks whether there is an inverse, within the verbs of these names. */
            void look(List<Integer> around) {
                back();
            }

            /** The verb that is the inverse. */
            Verb back() {
                throw new Stop('n', word);
            }

            int leftRank(Arr x) {
                return x.shape.length;
            }

            Arr at(Arr x, Arr y, int depth) {
                if (depth > 40) {
                    if (this instanceof Sign) {
                        applications++;
                    }
                    throw new Stop('m', word);
                }
                return act(x, y, depth);
            }
        }

        /** The inverse of a verb, which a name is at the time; it is not itself a verb that applies it. */
        final class Undone extends Verb {
            final Verb of;

            Undone(Verb of) {
                super(of.word);
                this.of = of;
            }

            @Override
            Arr act(Arr x, Arr y, int depth) {
                return at(x, y, depth);
            }

            @Override
            Arr at(Arr x, Arr y, int depth) {
                Verb w = of;
                for (int names = 0; w instanceof Name; names++) {
                    if (names == 100) {
                        throw new Stop('m', w.word);
                    }
                    w = ((Name) w).has();
                }
                return w.back().at(x, y, depth);
            }
        }

        final class Sign extends Verb {
            final char sign;

            Sign(char sign, int word) {
                super(word);
                this.sign = sign;
            }

            @Override
            int leftRank(Arr x) {
                return Math.min(x.shape.length, "+-*%|=<>n{".indexOf(sign) >= 0 ? 0 : "#$".indexOf(sign) >= 0 ? 1 : 3);
            }

            @Override
            Arr act(Arr x, Arr y, int depth) {
                if (x == null) {
                    int rank = "+-*%|=>".indexOf(sign) >= 0 ? 0 : sign == 'i' ? 1 : 3;
                    return ranks(null, y, 0, Math.min(rank, y.shape.length), word, (a, b) -> once(null, b));
                }
                int right = "+-*%|=<>n".indexOf(sign) >= 0 ? 0 : y.shape.length;
                return ranks(x, y, leftRank(x), right, word, (a, b) -> once(a, b));
            }

            Arr once(Arr x, Arr y) {
                applications++;
                if (applications > 600) {
                    throw new Stop('m', word);
                }
                Arr r = x == null ? one(y) : two(x, y);
                cost += (x == null ? 0 : x.cells.length) + y.cells.length + r.cells.length;
                return r;
            }

            Stop bad(char error) {
                return new Stop(error, word);
            }

            void need(boolean ok, char error) {
                if (!ok) {
                    throw bad(error);
                }
            }

            Arr atom(Object o) {
                return new Arr(o instanceof Integer ? 'i' : o instanceof Double ? 'f' : 'x', new int[0], new Object[] {o});
            }

            Arr ints(List<Integer> list) {
                need(list.size() <= 64, 'm');
                return new Arr('i', new int[] {list.size()}, list.toArray());
            }

            Arr one(Arr y) {
                if ("+-*%|=".indexOf(sign) >= 0) {
                    need(y.kind != 'x' && sign != '=', 'd');
                    Object v = y.cells[0];
                    double d = dbl(v);
                    boolean whole = v instanceof Integer;
                    switch (sign) {
                        case '+': return y;
                        case '-': return atom(whole ? num(-(long) (Integer) v) : (Object) (-d));
                        case '*': return atom(d > 0 ? 1 : d < 0 ? -1 : 0);
                        case '%': return atom(1.0 / d);
                        default: return atom(whole ? num(Math.abs((long) (Integer) v)) : (Object) Math.abs(d));
                    }
                }
                switch (sign) {
                    case '<':
                        need(boxDepth(y) < 5, 'm');
                        return atom(y);
                    case '>': return y.kind == 'x' ? (Arr) y.cells[0] : y;
                    case '#': return atom(y.items());
                    case '$': {
                        List<Integer> list = new ArrayList<>();
                        for (int s : y.shape) {
                            list.add(s);
                        }
                        return ints(list);
                    }
                    case ',': return new Arr(y.kind, new int[] {y.cells.length}, y.cells);
                    case 'i': {
                        int[] shape = shape(y);
                        Arr r = zeros('i', shape, word);
                        for (int k = 0; k < r.cells.length; k++) {
                            r.cells[k] = k;
                        }
                        return r;
                    }
                    case 'g': return grade(y);
                    case 'r': return pick(y, reversed(y.items()));
                    case 't': return transpose(y);
                    case 'n': {
                        List<Integer> list = new ArrayList<>();
                        for (int k = 0; k < y.items(); k++) {
                            boolean isNew = true;
                            for (int j = 0; j < k; j++) {
                                isNew &= !same(y.asList().item(k), y.asList().item(j));
                            }
                            if (isNew) {
                                list.add(k);
                            }
                        }
                        return pick(y, list);
                    }
                    case 'h': return y.items() > 0 ? y.item(0) : zeros(y.kind, y.itemShape(), word);
                    case 'e': return pick(y, range(Math.min(1, y.items()), y.items()));
                    case '[':
                    case ']': return y;
                    default: throw bad('d');
                }
            }

            List<Integer> reversed(int n) {
                List<Integer> list = new ArrayList<>();
                for (int k = n - 1; k >= 0; k--) {
                    list.add(k);
                }
                return list;
            }

            List<Integer> range(int from, int to) {
                List<Integer> list = new ArrayList<>();
                for (int k = from; k < to; k++) {
                    list.add(k);
                }
                return list;
            }

            /** Items by index, -1 being a filler. */
            Arr pick(Arr what, List<Integer> places) {
                Arr y = what.asList();
                int[] shape = cat(new int[] {places.size()}, y.itemShape());
                Arr r = zeros(y.kind, shape, word);
                int n = product(y.itemShape());
                for (int k = 0; k < places.size(); k++) {
                    if (places.get(k) >= 0 && n > 0 && y.cells.length > 0) {
                        System.arraycopy(y.cells, places.get(k) * n, r.cells, k * n, n);
                    }
                }
                return r;
            }

            int[] shape(Arr y) {
                need(y.kind == 'i', 'd');
                for (Object o : y.cells) {
                    need((Integer) o >= 0, 'd');
                }
                int[] shape = new int[y.cells.length];
                for (int k = 0; k < shape.length; k++) {
                    shape[k] = (Integer) y.cells[k];
                }
                return shape;
            }

            Arr grade(Arr y) {
                need(y.kind != 'x', 'd');
                List<Integer> list = range(0, y.items());
                int n = product(y.itemShape());
                list.sort((a, b) -> {
                    for (int k = 0; k < n && y.cells.length > 0; k++) {
                        int c = Double.compare(dbl(y.cells[a * n + k]), dbl(y.cells[b * n + k]));
                        if (c != 0) {
                            return c;
                        }
                    }
                    return 0;
                });
                return ints(list);
            }

            Arr transpose(Arr y) {
                int rank = y.shape.length;
                int[] shape = new int[rank];
                for (int k = 0; k < rank; k++) {
                    shape[k] = y.shape[rank - 1 - k];
                }
                Arr r = zeros(y.kind, shape, word);
                int[] index = new int[rank];
                for (Object c : y.cells) {
                    int to = 0;
                    for (int k = 0; k < rank; k++) {
                        to = to * shape[k] + index[rank - 1 - k];
                    }
                    r.cells[to] = c;
                    for (int k = rank - 1; k >= 0; k--) {
                        index[k]++;
                        if (index[k] < y.shape[k]) {
                            break;
                        }
                        index[k] = 0;
                    }
                }
                return r;
            }

            Arr two(Arr x, Arr y) {
                if ("+-*%|=<>n".indexOf(sign) >= 0) {
                    need(x.kind != 'x' && y.kind != 'x', 'd');
                    return atom(arithmetic(x.cells[0], y.cells[0]));
                }
                switch (sign) {
                    case '#': return copy(x, y);
                    case '$': {
                        int[] shape = shape(x);
                        Arr r = zeros(y.kind, shape, word);
                        need(r.cells.length == 0 || y.cells.length > 0, 'l');
                        for (int k = 0; k < r.cells.length; k++) {
                            r.cells[k] = y.cells[k % y.cells.length];
                        }
                        return r;
                    }
                    case ',': return join(x, y);
                    case '{': {
                        need(x.kind == 'i', 'd');
                        int k = (Integer) x.cells[0];
                        k = k < 0 && k >= -64 ? k + y.items() : k;
                        need(k >= 0 && k < y.items(), 'x');
                        return y.asList().item(k);
                    }
                    case 'i': return find(x, y);
                    case 'r': {
                        int by = whole(x);
                        List<Integer> list = new ArrayList<>();
                        for (int k = 0; k < y.items(); k++) {
                            list.add(Math.floorMod((long) k + by, y.items()));
                        }
                        return pick(y, list);
                    }
                    case 'h': {
                        int number = whole(x);
                        long size = Math.abs((long) number);
                        need(size <= 64, 'm');
                        List<Integer> list = new ArrayList<>();
                        for (int k = 0; k < size; k++) {
                            int place = number > 0 ? k : y.items() - (int) size + k;
                            list.add(place < y.items() ? Math.max(-1, place) : -1);
                        }
                        return pick(y, list);
                    }
                    case 'e': {
                        int number = whole(x);
                        int size = (int) Math.min(Math.abs((long) number), y.items());
                        return pick(y, number >= 0 ? range(size, y.items()) : range(0, y.items() - size));
                    }
                    case '[': return x;
                    case ']': return y;
                    default: throw bad('d');
                }
            }

            int whole(Arr x) {
                need(x.kind == 'i', 'd');
                need(x.shape.length == 0, 'r');
                return (Integer) x.cells[0];
            }

            Object arithmetic(Object a, Object b) {
                double c = dbl(a);
                double d = dbl(b);
                boolean wholes = a instanceof Integer && b instanceof Integer;
                long p = wholes ? (Integer) a : 0;
                long q = wholes ? (Integer) b : 0;
                switch (sign) {
                    case '+': return wholes ? num(p + q) : (Object) (c + d);
                    case '-': return wholes ? num(p - q) : (Object) (c - d);
                    case '*': return wholes ? num(p * q) : (Object) (c * d);
                    case '%': return c / d;
                    case '|':
                        if (wholes) {
                            return num(p == 0 ? q : Math.floorMod(q, p));
                        }
                        return c == 0 ? d : d - c * Math.floor(d / c);
                    case '=': return c == d ? 1 : 0;
                    case 'n': return c == d ? 0 : 1;
                    case '<': return c < d ? 1 : 0;
                    default: return c > d ? 1 : 0;
                }
            }

            Arr copy(Arr x, Arr y) {
                int[] counts = shape(x);
                need(x.shape.length == 0 || counts.length == y.items(), 'l');
                long total = 0;
                for (int k = 0; k < y.items(); k++) {
                    total += x.shape.length == 0 ? counts[0] : counts[k];
                }
                need(total <= 64, 'm');
                List<Integer> list = new ArrayList<>();
                for (int k = 0; k < y.items(); k++) {
                    for (int j = 0; j < (x.shape.length == 0 ? counts[0] : counts[k]); j++) {
                        list.add(k);
                    }
                }
                return pick(y, list);
            }

            Arr join(Arr x, Arr y) {
                need((x.kind == 'x') == (y.kind == 'x'), 'd');
                int rank = Math.max(1, Math.max(x.shape.length, y.shape.length));
                int[] item = x.shape.length == rank ? x.itemShape() : y.shape.length == rank ? y.itemShape() : new int[0];
                for (Arr a : new Arr[] {x, y}) {
                    need(a.shape.length == 0 || a.shape.length >= rank - 1, 'r');
                }
                for (Arr a : new Arr[] {x, y}) {
                    need(a.shape.length == 0 || Arrays.equals(a.shape.length == rank ? a.itemShape() : a.shape, item), 'l');
                }
                char kind = x.kind == 'x' ? 'x' : x.kind == 'f' || y.kind == 'f' ? 'f' : 'i';
                int items = 0;
                List<Object> cells = new ArrayList<>();
                for (Arr a : new Arr[] {x, y}) {
                    items += a.shape.length == rank ? a.shape[0] : 1;
                }
                fits(cat(new int[] {items}, item), word);
                for (Arr a : new Arr[] {x, y}) {
                    int times = a.shape.length == 0 ? product(item) : 1;
                    for (int k = 0; k < times; k++) {
                        for (Object o : a.cells) {
                            cells.add(kind == 'f' ? (Object) dbl(o) : o);
                        }
                    }
                }
                return new Arr(kind, cat(new int[] {items}, item), cells.toArray());
            }

            Arr find(Arr x, Arr y) {
                int rank = Math.max(0, x.shape.length - 1);
                int frame = Math.max(0, y.shape.length - rank);
                int[] shape = head(y.shape, frame);
                int[] cell = tail(y.shape, frame);
                Arr r = zeros('i', shape, word);
                int n = product(cell);
                for (int k = 0; k < r.cells.length; k++) {
                    Arr c = new Arr(y.kind, cell, Arrays.copyOfRange(y.cells, k * n, k * n + n));
                    int place = 0;
                    while (place < x.items() && !same(x.item(place), c)) {
                        place++;
                    }
                    r.cells[k] = place;
                }
                return r;
            }

            @Override
            Verb back() {
                if ("+-%rt[]".indexOf(sign) >= 0) {
                    return this;
                }
                if (sign == '<' || sign == '>') {
                    return new Sign(sign == '<' ? '>' : '<', word);
                }
                return super.back();
            }
        }

        interface Two {
            Arr of(Arr x, Arr y);
        }

        Arr ranks(Arr x, Arr y, int xr, int yr, int word, Two f) {
            int[] xf = x == null ? new int[0] : head(x.shape, x.shape.length - xr);
            int[] yf = head(y.shape, y.shape.length - yr);
            int[] frame = xf.length > yf.length ? xf : yf;
            for (int k = 0; k < Math.min(xf.length, yf.length); k++) {
                if (xf[k] != yf[k]) {
                    throw new Stop('l', word);
                }
            }
            if (frame.length == 0) {
                return f.of(x, y);
            }
            int cells = product(frame);
            if (cells == 0) {
                Arr zx = x == null ? null : zeros(x.kind, tail(x.shape, xf.length), word);
                Arr zy = zeros(y.kind, tail(y.shape, yf.length), word);
                return none(frame, word, () -> f.of(zx, zy));
            }
            List<Arr> results = new ArrayList<>();
            for (int k = 0; k < cells; k++) {
                Arr xc = x == null ? null : cell(x, xf, k / (cells / product(xf)));
                results.add(f.of(xc, cell(y, yf, k / (cells / product(yf)))));
            }
            return together(frame, results, word);
        }

        interface None {
            Arr get();
        }

        Arr none(int[] frame, int word, None f) {
            Arr r;
            try {
                r = f.get();
            } catch (Stop s) {
                if (s.error == 'm') {
                    throw s;
                }
                r = new Arr('i', new int[0], new Object[] {0});
            }
            return zeros(r.kind, cat(frame, r.shape), word);
        }

        Arr cell(Arr a, int[] frame, int k) {
            int[] shape = tail(a.shape, frame.length);
            int n = product(shape);
            return new Arr(a.kind, shape, Arrays.copyOfRange(a.cells, k * n, k * n + n));
        }

        final class Name extends Verb {
            final int name;

            Name(int name, int word) {
                super(word);
                this.name = name;
            }

            Verb has() {
                if (!(names[name] instanceof Verb)) {
                    throw new Stop('v', word);
                }
                return (Verb) names[name];
            }

            @Override
            Arr act(Arr x, Arr y, int depth) {
                return has().at(x, y, depth + 1);
            }

            @Override
            void look(List<Integer> around) {
                if (around.contains(name)) {
                    throw new Endless();
                }
                around.add(name);
                has().look(around);
                around.remove((Object) name);
            }
        }

        final class Insert extends Verb {
            final Verb u;

            Insert(Verb u, int word) {
                super(word);
                this.u = u;
            }

            boolean known(Arr y) {
                if (!special || !(u instanceof Sign) || "+*".indexOf(((Sign) u).sign) < 0) {
                    return false;
                }
                if (y.shape.length != 1 || y.kind != 'i' || y.cells.length == 0) {
                    return false;
                }
                java.math.BigInteger all = java.math.BigInteger.valueOf(((Sign) u).sign == '+' ? 0 : 1);
                for (Object o : y.cells) {
                    java.math.BigInteger v = java.math.BigInteger.valueOf((Integer) o).abs();
                    all = ((Sign) u).sign == '+' ? all.add(v) : all.multiply(v.max(java.math.BigInteger.ONE));
                }
                return all.compareTo(java.math.BigInteger.valueOf(Integer.MAX_VALUE)) <= 0;
            }

            int[] sums(Arr y, int at) {
                applications++;
                if (applications > 600) {
                    throw new Stop('m', at);
                }
                specials++;
                cost += 2 * y.cells.length;
                int[] r = new int[y.cells.length];
                int all = ((Sign) u).sign == '+' ? 0 : 1;
                for (int k = 0; k < r.length; k++) {
                    all = ((Sign) u).sign == '+' ? all + (Integer) y.cells[k] : all * (Integer) y.cells[k];
                    r[k] = all;
                }
                return r;
            }

            @Override
            Arr act(Arr x, Arr y, int depth) {
                if (x != null) {
                    return ranks(x, y, u.leftRank(x), y.shape.length, word, (a, b) -> u.at(a, b, depth + 1));
                }
                if (known(y)) {
                    int[] sums = sums(y, word);
                    return new Arr('i', new int[0], new Object[] {sums[sums.length - 1]});
                }
                if (y.items() == 0) {
                    char sign = u instanceof Sign ? ((Sign) u).sign : ' ';
                    if (sign != '+' && sign != '*') {
                        throw new Stop('d', word);
                    }
                    Arr r = zeros('i', y.itemShape(), word);
                    Arrays.fill(r.cells, sign == '+' ? 0 : 1);
                    return r;
                }
                Arr r = y.item(y.items() - 1);
                for (int k = y.items() - 2; k >= 0; k--) {
                    r = u.at(y.item(k), r, depth + 1);
                }
                return r;
            }
        }

        final class Windows extends Verb {
            final Verb u;

            Windows(Verb u, int word) {
                super(word);
                this.u = u;
            }

            @Override
            Arr act(Arr x, Arr what, int depth) {
                if (x == null && u instanceof Insert && ((Insert) u).known(what)) {
                    int[] sums = ((Insert) u).sums(what, word);
                    return new Arr('i', new int[] {sums.length}, Arrays.stream(sums).boxed().toArray());
                }
                Arr y = what.asList();
                long width = 0;
                if (x != null) {
                    if (x.kind != 'i') {
                        throw new Stop('d', word);
                    }
                    if (x.shape.length > 0) {
                        throw new Stop('r', word);
                    }
                    width = (Integer) x.cells[0];
                    if (width < 1) {
                        throw new Stop('d', word);
                    }
                }
                int n = y.items();
                int lists = x == null ? n : (int) Math.max(0, n - width + 1);
                if (lists == 0) {
                    Arr list = zeros(y.kind, cat(new int[] {(int) width}, y.itemShape()), word);
                    return none(new int[] {0}, word, () -> u.at(null, list, depth + 1));
                }
                List<Arr> results = new ArrayList<>();
                int cells = product(y.itemShape());
                for (int k = 0; k < lists; k++) {
                    int from = x == null ? 0 : k;
                    int to = x == null ? k + 1 : k + (int) width;
                    Arr list = new Arr(y.kind, cat(new int[] {to - from}, y.itemShape()),
                        Arrays.copyOfRange(y.cells, from * cells, to * cells));
                    results.add(u.at(null, list, depth + 1));
                }
                return together(new int[] {lists}, results, word);
            }
        }

        final class Swap extends Verb {
            final Verb u;

            Swap(Verb u, int word) {
                super(word);
                this.u = u;
            }

            @Override
            Arr act(Arr x, Arr y, int depth) {
                return x == null ? u.at(y, y, depth + 1) : u.at(y, x, depth + 1);
            }
        }

        final class Atop extends Verb {
            final Verb u;
            final Verb v;

            Atop(Verb u, Verb v, int word) {
                super(word);
                this.u = u;
                this.v = v;
            }

            @Override
            Arr act(Arr x, Arr y, int depth) {
                return u.at(null, v.at(x, y, depth + 1), depth + 1);
            }

            @Override
            void look(List<Integer> around) {
                u.look(around);
                v.look(around);
            }

            @Override
            Verb back() {
                return new Atop(new Undone(v), new Undone(u), word);
            }
        }

        final class Both extends Verb {
            final Verb u;
            final Verb v;

            Both(Verb u, Verb v, int word) {
                super(word);
                this.u = u;
                this.v = v;
            }

            @Override
            Arr act(Arr x, Arr y, int depth) {
                Arr right = v.at(null, y, depth + 1);
                Arr left = x == null ? null : v.at(null, x, depth + 1);
                return u.at(left, right, depth + 1);
            }

            @Override
            void look(List<Integer> around) {
                u.look(around);
                v.look(around);
            }

            @Override
            Verb back() {
                return new Atop(new Undone(v), new Undone(u), word);
            }
        }

        final class Bond extends Verb {
            final Arr n;
            final Verb v;
            final boolean isNounLeft;

            Bond(Arr n, Verb v, boolean isNounLeft, int word) {
                super(word);
                this.n = n;
                this.v = v;
                this.isNounLeft = isNounLeft;
            }

            @Override
            Arr act(Arr x, Arr y, int depth) {
                if (x != null) {
                    throw new Stop('d', word);
                }
                return isNounLeft ? v.at(n, y, depth + 1) : v.at(y, n, depth + 1);
            }

            @Override
            Verb back() {
                char sign = v instanceof Sign ? ((Sign) v).sign : ' ';
                if ("+-*%".indexOf(sign) < 0) {
                    return super.back();
                }
                if (isNounLeft && (sign == '-' || sign == '%')) {
                    return this;
                }
                char other = "-+%*".charAt("+-*%".indexOf(sign));
                return new Bond(n, new Sign(other, v.word), false, v.word);
            }
        }

        final class Ranked extends Verb {
            final Verb u;
            final int[] ranks;

            Ranked(Verb u, int[] ranks, int word) {
                super(word);
                this.u = u;
                this.ranks = ranks;
            }

            int rank(int k, Arr a) {
                int r = ranks[k];
                return r < 0 ? (int) Math.max(0, (long) a.shape.length + r) : Math.min(r, a.shape.length);
            }

            @Override
            int leftRank(Arr x) {
                return rank(1, x);
            }

            @Override
            Arr act(Arr x, Arr y, int depth) {
                return ranks(x, y, x == null ? 0 : rank(1, x), rank(x == null ? 0 : 2, y), word, (a, b) -> u.at(a, b, depth + 1));
            }

            @Override
            void look(List<Integer> around) {
                u.look(around);
            }

            @Override
            Verb back() {
                return new Ranked(new Undone(u), ranks, word);
            }
        }

        final class Power extends Verb {
            final Verb u;
            final int n;

            Power(Verb u, int n, int word) {
                super(word);
                this.u = u;
                this.n = n;
            }

            @Override
            Arr act(Arr x, Arr y, int depth) {
                if (n < 0 && x != null) {
                    throw new Stop('d', word);
                }
                Verb w = n < 0 ? u.inverse() : u;
                Arr r = y;
                for (int k = 0; k < (n == 10 ? 50 : Math.abs(n)); k++) {
                    Arr next = w.at(x, r, depth + 1);
                    if (n == 10 && same(next, r)) {
                        return next;
                    }
                    r = next;
                }
                if (n == 10) {
                    throw new Stop('m', word);
                }
                return r;
            }

            @Override
            Verb back() {
                return n == 10 ? super.back() : new Power(u, -n, word);
            }
        }

        final class Under extends Verb {
            final Verb u;
            final Verb v;

            Under(Verb u, Verb v, int word) {
                super(word);
                this.u = u;
                this.v = v;
            }

            @Override
            Arr act(Arr x, Arr y, int depth) {
                Arr right = v.at(null, y, depth + 1);
                Arr left = x == null ? null : v.at(null, x, depth + 1);
                Arr r = u.at(left, right, depth + 1);
                return v.inverse().at(null, r, depth + 1);
            }
        }

        final class Fork extends Verb {
            final Object f;
            final Verb g;
            final Verb h;

            Fork(Object f, Verb g, Verb h) {
                super(g.word);
                this.f = f;
                this.g = g;
                this.h = h;
            }

            @Override
            Arr act(Arr x, Arr y, int depth) {
                Arr right = h.at(x, y, depth + 1);
                Arr left = f instanceof Arr ? (Arr) f : ((Verb) f).at(x, y, depth + 1);
                return g.at(left, right, depth + 1);
            }
        }

        final class Hook extends Verb {
            final Verb f;
            final Verb g;

            Hook(Verb f, Verb g) {
                super(f.word);
                this.f = f;
                this.g = g;
            }

            @Override
            Arr act(Arr x, Arr y, int depth) {
                return f.at(x == null ? y : x, g.at(null, y, depth + 1), depth + 1);
            }
        }

        // putting together: things are Arr, Verb, or a String: "mark", ":", "(", ")", an adverb, a conjunction, a name

        final List<Object> stack = new ArrayList<>();
        final List<Integer> places = new ArrayList<>();

        char sort(int k) {
            if (k >= stack.size()) {
                return ' ';
            }
            Object o = stack.get(k);
            return o instanceof Arr ? 'n' : o instanceof Verb ? 'v' : o.equals("mark") ? 'm' : sortOf((String) o);
        }

        void put(int from, int count, Object made) {
            for (int k = 0; k < count; k++) {
                stack.remove(from);
                places.remove(from);
            }
            stack.add(from, made);
            places.add(from, -1);
        }

        boolean in(int k, String sorts) {
            return sorts.indexOf(sort(k)) >= 0;
        }

        boolean step() {
            boolean edge = in(0, "m:(");
            boolean ahead = edge || in(0, "avn");
            if (edge && in(1, "v") && in(2, "n")) {
                put(1, 2, verb(1).at(null, arr(2), 1));
            } else if (ahead && in(1, "v") && in(2, "v") && in(3, "n")) {
                put(2, 2, verb(2).at(null, arr(3), 1));
            } else if (ahead && in(1, "n") && in(2, "v") && in(3, "n")) {
                put(1, 3, verb(2).at(arr(1), arr(3), 1));
            } else if (ahead && in(1, "nv") && in(2, "a")) {
                put(1, 2, adverb());
            } else if (ahead && in(1, "nv") && in(2, "c") && in(3, "nv")) {
                put(1, 3, conjunction());
            } else if (ahead && in(1, "nv") && in(2, "v") && in(3, "v")) {
                put(1, 3, new Fork(stack.get(1), verb(2), verb(3)));
            } else if (edge && in(1, "v") && in(2, "v")) {
                put(1, 2, new Hook(verb(1), verb(2)));
            } else if (in(0, "w") && in(1, ":") && in(2, "nv")) {
                names[((String) stack.get(0)).charAt(0) - 'A'] = stack.get(2);
                put(0, 3, stack.get(2));
            } else if (in(0, "(") && in(1, "nv") && in(2, ")")) {
                put(0, 3, stack.get(1));
            } else {
                return false;
            }
            return true;
        }

        Verb verb(int k) {
            return (Verb) stack.get(k);
        }

        Arr arr(int k) {
            return (Arr) stack.get(k);
        }

        Verb adverb() {
            int word = places.get(2);
            if (!in(1, "v")) {
                throw new Stop('d', word);
            }
            String a = (String) stack.get(2);
            return a.equals("/") ? new Insert(verb(1), word) : a.equals("~") ? new Swap(verb(1), word) : new Windows(verb(1), word);
        }

        Verb conjunction() {
            int word = places.get(2);
            char c = ((String) stack.get(2)).charAt(0);
            boolean leftVerb = in(1, "v");
            boolean rightVerb = in(3, "v");
            if (c == '&' && leftVerb != rightVerb) {
                return leftVerb ? new Bond(arr(3), verb(1), false, word) : new Bond(arr(1), verb(3), true, word);
            }
            boolean takesNoun = c == '"' || c == '^';
            if (!leftVerb || rightVerb == takesNoun) {
                throw new Stop('d', word);
            }
            if (!takesNoun) {
                return c == '@' ? new Atop(verb(1), verb(3), word) : c == '&' ? new Both(verb(1), verb(3), word) : new Under(verb(1), verb(3), word);
            }
            Arr n = arr(3);
            if (n.kind != 'i') {
                throw new Stop('d', word);
            }
            if (n.shape.length > (c == '"' ? 1 : 0)) {
                throw new Stop('r', word);
            }
            if (c == '^') {
                int times = (Integer) n.cells[0];
                if (times < -9 || times > 10) {
                    throw new Stop('d', word);
                }
                return new Power(verb(1), times, word);
            }
            int k = n.cells.length;
            if (k < 1 || k > 3) {
                throw new Stop('l', word);
            }
            int first = (Integer) n.cells[0];
            int last = (Integer) n.cells[k - 1];
            return new Ranked(verb(1), k == 1 ? new int[] {first, first, first} : k == 2 ? new int[] {last, first, last}
                : new int[] {first, (Integer) n.cells[1], last}, word);
        }

        Object evaluate() {
            cut(typed);
            if (isWrong) {
                throw new Stop('s', words.size());
            }
            stack.clear();
            places.clear();
            if (words.isEmpty()) {
                return null;
            }
            for (int k = words.size() - 1; k >= -1; k--) {
                while (step()) {
                    continue;
                }
                Object thing = k < 0 ? "mark" : words.get(k);
                if (k >= 0) {
                    char sort = sortOf(words.get(k));
                    if (sort == 'n') {
                        thing = literal(words.get(k));
                    } else if (sort == 'v') {
                        thing = new Sign(words.get(k).charAt(0), k);
                    } else if (sort == 'w' && sort(0) != ':') {
                        int name = words.get(k).charAt(0) - 'A';
                        thing = names[name] instanceof Arr ? names[name] : new Name(name, k);
                    }
                }
                stack.add(0, thing);
                places.add(0, k);
            }
            while (step()) {
                continue;
            }
            if (stack.size() != 2 || !in(1, "nv")) {
                throw new Stop('s', 0);
            }
            return stack.get(1);
        }

        char run() {
            applications = 0;
            cost = 0;
            specials = 0;
            try {
                Object o = evaluate();
                answer = o == null ? '-' : o instanceof Arr ? 'n' : 'v';
                if (o instanceof Arr) {
                    noun = (Arr) o;
                    answered.add(noun.key());
                    if (!different.contains(noun.key())) {
                        different.add(noun.key());
                    }
                }
            } catch (Stop s) {
                answer = 'e';
                error = s.error;
                errorAt = s.word;
                wrongLines++;
            }
            typed = "";
            lines++;
            costs += cost;
            return answer;
        }

        int before() {
            int n = 0;
            for (String k : answered) {
                n += k.equals(noun.key()) ? 1 : 0;
            }
            return n;
        }
    }

    static String text(Object o) {
        if (o instanceof Double) {
            return "#" + String.format("%016x", Double.doubleToLongBits((Double) o));
        }
        int v = (Integer) o;
        return v < 0 ? "_" + -(long) v : "" + v;
    }

    static String show(Arr a) {
        StringBuilder b = new StringBuilder();
        if (a.shape.length == 0) {
            return a.kind == 'x' ? "<" + show((Arr) a.cells[0]) : text(a.cells[0]);
        }
        if (a.shape.length > 1 || a.cells.length < 2 || a.kind == 'x') {
            for (int k = 0; k < a.shape.length; k++) {
                b.append(k > 0 ? " " : "").append(a.shape[k]);
            }
            b.append('$');
        }
        if (a.cells.length == 0) {
            return b.append(a.kind == 'x' ? "(<i0)" : a.kind == 'f' ? "#0000000000000000" : "0").toString();
        }
        for (int k = 0; k < a.cells.length; k++) {
            if (a.kind == 'x') {
                b.append(k > 0 ? "," : "").append("(<").append(show((Arr) a.cells[k])).append(")");
            } else {
                b.append(k > 0 ? " " : "").append(text(a.cells[k]));
            }
        }
        return b.toString();
    }

    // ---- comparing

    static long state = 12345;

    static int random(int n) {
        state = state * 6364136223846793005L + 1442695040888963407L;
        return (int) ((state >>> 33) % n);
    }

    static String story = "";

    static void same(String what, Object got, Object want) {
        compared++;
        if (!String.valueOf(got).equals(String.valueOf(want))) {
            wrong++;
            if (wrong < 30) {
                System.out.println(story + "\n   " + what + " answered " + got + ", due is " + want);
            }
        }
    }

    static void check(RankTrain x, Plain p) {
        same("cost", x.cost(), p.cost);
        same("applications", x.applications(), p.applications);
        same("specials", x.specials(), p.specials);
        same("nouns", x.nouns(), p.different.size());
        same("meanCost", x.meanCost(), (double) p.costs / (double) p.lines);
        same("errorShare", x.errorShare(), (float) p.wrongLines / (float) p.lines);
        for (int k = 0; k < 6; k++) {
            same("named " + k, x.named(k), p.names[k] == null ? '-' : p.names[k] instanceof Arr ? 'n' : 'v');
        }
        if (p.answer == 'e') {
            same("error", x.error(), p.error);
            same("errorAt", x.errorAt(), p.errorAt);
        }
        if (p.answer == 'n') {
            Arr a = p.noun;
            same("kind", x.kind(), a.kind);
            same("rank", x.rank(), a.shape.length);
            same("size", x.size(), a.cells.length);
            for (int k = 0; k < a.shape.length && k < x.rank(); k++) {
                same("length " + k, x.length(k), a.shape[k]);
            }
            for (int k = 0; k < a.cells.length && k < x.size(); k++) {
                Object c = a.cells[k];
                long want = c instanceof Arr ? ((Arr) c).cells.length : c instanceof Double ? Double.doubleToLongBits((Double) c) : (Integer) c;
                same("cell " + k, x.cell(k), want);
            }
            String shown = show(a);
            same("shown", x.shown(), shown.length());
            StringBuilder b = new StringBuilder();
            for (int k = 0; k < Math.min(200, x.shown()); k++) {
                b.append(x.shownAt(k));
            }
            same("shownAt", b, shown.substring(0, Math.min(200, shown.length())));
            same("answeredBefore", x.answeredBefore(), p.before());
        }
    }

    static final String VERBS = "+-*%|=<>#$,{igrtnhe[]";
    static final String[] NOUNS = {
        "0", "1", "2", "3", "_1", "_2", "5", "1 2", "1 2 3", "3 1 2", "2 0 1", "i5", "(i4)", "(2 3$i6)", "(2 2$5 6 7)", "(<1)",
        "((<1 2),(<3))", "(i0)", "(0 3$0)", "(2 0$0)", "(2 2 2$i8)", "2147483647", "_2147483648", "#3ff8000000000000",
        "#7ff8000000000000", "#8000000000000000", "#7ff0000000000000", "#fff0000000000000", "(1 2%3)", "(<<3)", "(0$<1)", "1 0 1",
        "(3$#4000000000000000)", "(3 3$i9)", "64", "65", "(64 64 0$0)", "(0 64 64$0)", "((<i0),<i0)", "((<2 3),(<2 3))", "10 20 30",
        "(<#3ff0000000000000)", "(1 1$7)", "(1$9)", "#0000000000000001", "#7fefffffffffffff", "65536", "4", "100000"};

    static String pick(String... from) {
        return from[random(from.length)];
    }

    static String sign() {
        return "" + VERBS.charAt(random(VERBS.length()));
    }

    static String noun() {
        int k = random(12);
        return k == 0 ? "" + (char) ('A' + random(3)) : k == 1 ? "" + random(8) : NOUNS[random(NOUNS.length)];
    }

    static String verb(int depth) {
        int k = depth > 3 ? 0 : random(22);
        String v = sign();
        if (k < 6) {
            return v;
        }
        String u = "(" + verb(depth + 1) + ")";
        String w = random(2) == 0 ? sign() : u;
        switch (k) {
            case 6: return w + "/";
            case 7: return w + "\\";
            case 8: return w + "~";
            case 9: return w + "@" + v;
            case 10: return w + "&" + v;
            case 11: return noun() + "&" + w;
            case 12: return w + "&" + noun();
            case 13: return w + "\"" + pick("0", "1", "_1", "0 1", "1 0", "2", "0 1 2", "(1 2 0)", "_9", "99");
            case 14: return w + "^" + pick("0", "1", "2", "3", "_1", "_2", "10", "9", "_9", "(2)", "11");
            case 15: return w + "U" + u;
            case 16: return u + v + w;
            case 17: return u + v;
            case 18: return noun() + v + w;
            case 19: return "" + (char) ('D' + random(3));
            case 20: return pick("+/\\", "*/\\", "+/", "*/", "2&*", "-&1", "1&+", "<", "%&3", "3&%", "*&2", "r", "t", "[", "-");
            default: return u + "@" + w;
        }
    }

    /** A verb that mostly takes no applications of verbs of one character, and has an inverse now and then. */
    static String free(int depth) {
        int k = depth > 3 ? random(4) : random(16);
        String u = depth > 3 ? "" : "(" + free(depth + 1) + ")";
        String w = depth > 3 ? "" : random(2) == 0 ? "(" + free(depth + 1) + ")" : pick("D", "E", "F", "]^0");
        switch (k) {
            case 0: return pick("]^0", "[^0~", "+^0", "#^0", "<^0");
            case 1: return pick("D", "E", "F");
            case 2: return pick("]^0/", "]^0~/", "+/", "*/", "]^0\\");
            case 3: return pick("-", "<", "1&+", "r", "[", "=", "#");
            case 4: return u + "/";
            case 5: return u + "\\";
            case 6: return u + "~";
            case 7: return u + "@" + w;
            case 8: return w + "&" + u;
            case 9: return noun() + "&" + u;
            case 10: return u + "\"" + pick("0", "1", "_1", "2", "0 1");
            case 11: return u + "^" + pick("_1", "_2", "1", "2", "3", "9", "10", "0");
            case 12: return u + "U" + w;
            case 13: return w + u + w;
            case 14: return w + u;
            default: return noun() + " " + u + w;
        }
    }

    /** The same verb, applied so much deeper. */
    static String deeper(String verb, int levels) {
        StringBuilder b = new StringBuilder("(").append(verb).append(")");
        String way = pick("^1", "\"3", "\"9");
        for (int k = 0; k < levels; k++) {
            b.append(way);
        }
        return b.toString();
    }

    static String freeLine() {
        int k = random(8);
        if (k < 3) {
            return (char) ('D' + random(3)) + ":" + free(1 + random(3));
        }
        String verb = deeper(free(1 + random(3)), k < 5 ? 0 : random(37));
        return (random(3) == 0 ? noun() : "") + "(" + verb + ")" + noun();
    }

    static String line() {
        int k = random(27);
        if (k >= 20) {
            return freeLine();
        }
        if (k == 0) {
            return (char) ('A' + random(3)) + ":" + noun() + sign() + noun();
        }
        if (k < 3) {
            return (char) ('D' + random(3)) + ":" + verb(1);
        }
        if (k == 3) {
            StringBuilder b = new StringBuilder();
            for (int n = random(12); n >= 0; n--) {
                b.append(pick("+", "-", "/", "\\", "~", "@", "&", "\"", "^", "U", "A", "D", ":", "(", ")", "1", "2 3", " ", "_4", "i", "z", "#", "5a", "_"));
            }
            return b.toString();
        }
        if (k < 9) {
            return pick("", noun()) + " " + sign() + " " + noun();
        }
        if (k < 12) {
            return noun() + " " + verb(1) + " " + noun();
        }
        if (k < 15) {
            return "(" + verb(1) + ")" + noun();
        }
        return noun() + "(" + verb(0) + ")" + noun();
    }

    static void type(RankTrain x, Plain p, String text) {
        for (int k = 0; k < text.length() && p.typed.length() < 80; k++) {
            p.typed += text.charAt(k);
            same("type", x.type(text.charAt(k)), p.typed.length());
        }
    }

    static void runBoth(RankTrain x, Plain p) {
        p.cut(p.typed);
        same("words", x.words(), p.words.size());
        for (int k = 0; k < Math.min(x.words(), p.words.size()); k++) {
            same("wordAt " + k, x.wordAt(k), Plain.sortOf(p.words.get(k)));
        }
        story += "\n" + p.typed;
        same("run", x.run(), p.run());
        check(x, p);
    }

    static void round(long seed) {
        state = seed;
        RankTrain x = new RankTrain();
        Plain p = new Plain();
        story = "---- round " + seed;
        for (int n = 0; n < 40; n++) {
            if (random(10) == 0) {
                boolean on = random(3) > 0;
                same("setSpecial", x.setSpecial(on), p.special);
                p.special = on;
                story += "\n(special " + on + ")";
            }
            if (p.answer == 'n' && random(4) == 0) {
                String shown = show(p.noun);
                if (shown.length() <= 80) {
                    same("retype", x.retype(), shown.length());
                    p.typed = shown;
                    String key = p.noun.key();
                    runBoth(x, p);
                    same("the noun that is shown", p.answer == 'n' ? p.noun.key() : "none", key);
                    continue;
                }
            }
            String line = line();
            if (line.length() <= 80) {
                type(x, p, line);
                runBoth(x, p);
            }
        }
    }

    public static void main(String[] args) {
        long from = args.length > 0 ? Long.parseLong(args[0]) : 1;
        long rounds = args.length > 1 ? Long.parseLong(args[1]) : 1500;
        for (long seed = from; seed < from + rounds; seed++) {
            round(seed);
        }
        System.out.println(compared + " answers compared, " + wrong + " were not as due");
        if (wrong > 0) {
            System.exit(1);
        }
    }
}
