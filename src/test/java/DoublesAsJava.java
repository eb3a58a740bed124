/** Arithmetic on doubles against Java's own, for bits of all kinds. */
public final class DoublesAsJava {
    private static int wrong = 0;
    private static int compared = 0;
    private static long state = 99;

    private static long random() {
        state = state * 6364136223846793005L + 1442695040888963407L;
        long high = state >>> 32;
        state = state * 6364136223846793005L + 1442695040888963407L;
        return high << 32 | state >>> 32;
    }

    private static long bits() {
        long[] edges = {0L, 1L, 2L, 0x000FFFFFFFFFFFFFL, 0x0010000000000000L, 0x0010000000000001L, 0x3FF0000000000000L,
            0x3FEFFFFFFFFFFFFFL, 0x3FF0000000000001L, 0x4000000000000000L, 0x4330000000000000L, 0x433FFFFFFFFFFFFFL,
            0x4340000000000000L, 0x7FEFFFFFFFFFFFFFL, 0x7FF0000000000000L, 0x7FF8000000000000L, 0x7FF0000000000001L,
            0x3FE0000000000000L, 0x4008000000000000L, 0x41DFFFFFFFC00000L, 0x4320000000000001L, 0x1FF0000000000000L};
        long r = random();
        long sign = r & Long.MIN_VALUE;
        switch ((int) (r & 7)) {
            case 0:
            case 1:
                return sign | edges[(int) ((r >>> 8) % edges.length & 31) % edges.length];
            case 2:
                return sign | (random() & 0x000FFFFFFFFFFFFFL);
            case 3:
                return sign | (random() & 0x000FFFFFFFFFFFFFL) | (1023L + (r >>> 20 & 63) << 52);
            case 4:
                return sign | (random() & 0x000FF00000000000L) | (1020L + (r >>> 20 & 15) << 52);
            default:
                return random();
        }
    }

    private static String word(long bits) {
        return "#" + String.format("%016x", bits);
    }

    private static void same(String line, double want) {
        RankTrain x = new RankTrain();
        for (char c : line.toCharArray()) {
            x.type(c);
        }
        compared++;
        long due = Double.doubleToLongBits(want);
        if (x.run() != 'n' || x.kind() != 'f' || x.cell(0) != due) {
            wrong++;
            System.out.println(line + " answered not " + word(due) + " but " + (x.cost() > 0 ? word(x.cell(0)) : "an error"));
        }
    }

    private static void truth(String line, boolean want) {
        whole(line, want ? 1 : 0);
    }

    private static void whole(String line, long want) {
        RankTrain x = new RankTrain();
        for (char c : line.toCharArray()) {
            x.type(c);
        }
        compared++;
        if (x.run() != 'n' || x.kind() != 'i' || x.cell(0) != want) {
            wrong++;
            System.out.println(line + " answered not " + want);
        }
    }

    private static void pair(long p, long q) {
        double a = Double.longBitsToDouble(p);
        double b = Double.longBitsToDouble(q);
        same(word(p) + "+" + word(q), a + b);
        same(word(p) + "-" + word(q), a - b);
        same(word(p) + "*" + word(q), a * b);
        same(word(p) + "%" + word(q), a / b);
        same(word(p) + "|" + word(q), a == 0 ? b : b - a * Math.floor(b / a));
        truth(word(p) + "<" + word(q), a < b);
        truth(word(p) + ">" + word(q), a > b);
        truth(word(p) + "=" + word(q), a == b);
        truth(word(p) + " n " + word(q), a != b);
        same("-" + word(p), -a);
        same("%" + word(p), 1.0 / a);
        same("|" + word(p), Math.abs(a));
        same("+" + word(p), a);
        whole("*" + word(p), a > 0 ? 1 : a < 0 ? -1 : 0);
    }

    private static String whole(long v) {
        return v < 0 ? "_" + -v : "" + v;
    }

    private static void wholes(int v, int w, long q) {
        double b = Double.longBitsToDouble(q);
        String x = whole(v);
        same(x + "%" + whole(w), (double) v / (double) w);
        same(x + "+" + word(q), (double) v + b);
        same(word(q) + "*" + x, b * (double) v);
        same(x + "|" + word(q), v == 0 ? b : b - v * Math.floor(b / v));
        truth(x + "<" + word(q), v < b);
        long product = (long) v * w;
        if (product != (int) product) {
            same(x + "*" + whole(w), (double) product);
        }
        long sum = (long) v + w;
        if (sum != (int) sum) {
            same(x + "+" + whole(w), (double) sum);
        }
    }

    public static void main(String[] args) {
        for (int k = 0; k < 6000; k++) {
            pair(bits(), bits());
            wholes((int) random(), (int) random(), bits());
            wholes((int) (random() >> 60), (int) (random() >> 58), bits());
        }
        System.out.println(compared + " results compared, " + wrong + " were not as Java's");
        if (wrong > 0) {
            System.exit(1);
        }
    }
}
