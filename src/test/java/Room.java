import java.lang.management.ManagementFactory;

/** The dearest runs of 512 calls stay far below the room that all calls of a run share. */
public final class Room {
    private static final long MOST_BYTES = 7300000L * 8 / 2;
    private static int wrong = 0;

    private static long allocated() {
        com.sun.management.ThreadMXBean bean = (com.sun.management.ThreadMXBean) ManagementFactory.getThreadMXBean();
        return bean.getThreadAllocatedBytes(Thread.currentThread().getId());
    }

    private static void run(RankTrain x, String line) {
        for (int k = 0; k < line.length(); k++) {
            x.type(line.charAt(k));
        }
        x.run();
    }

    private static void check(String again, String... ahead) {
        long before = allocated();
        RankTrain x = new RankTrain();
        int calls = 0;
        for (String line : ahead) {
            run(x, line);
            calls += line.length() + 1;
        }
        while (calls + again.length() + 1 <= 512) {
            run(x, again);
            calls += again.length() + 1;
        }
        long bytes = allocated() - before;
        if (bytes > MOST_BYTES) {
            wrong++;
            System.out.println("512 calls with " + again + " behind " + String.join("; ", ahead) + " took " + bytes + " bytes");
        }
    }

    public static void main(String[] args) {
        run(new RankTrain(), "1+1");
        check("AB", "A:r^9^9^9", "B:i64");
        check("AB", "A:((((1&+)\"0)\"1)\"2)^9", "B:4 4 4$i64");
        check("AB", "A:(%@(#3ff8000000000000&+))^4", "B:i64");
        check("AB", "A:((1&+)@(2&*)@(1&+)@(2&*)\"0)^_4", "B:i64");
        check("AB", "A:(+^0)\"0^9^9^9^9^9^9^9^9^9^9", "B:i64");
        check("B:CB", "B:i64", "A:(<@(B&+))\"0", "C:(1&+)@([A)");
        check("A B:B+64", "B:0", "C:i64", "D:<@(C&+)\"0", "A:D@(B+])@C");
        check("A B", "B:0 0 0", "D:i\"0", "A:(#+D)/\\");
        check("A B", "A:]^0/@(]^0/@(]^0/@(]^0/@(]^0/\\)\\)\\)\\)", "C:]^0/@(]^0/@(]^0/@(A\\)\\)\\)", "A:C\\@(C\\)", "B:i64");
        check("AC B:B+C", "C:i64", "B:0", "A:]^0\"0@(]^0\"0)@(]^0\"0)@(]^0\"0)@(]^0\"0)");
        // Each box that is new is kept: some 550 in a line, of up to 64 cells.
        check("B:CB", "D:#@(<\\)@((64&$)@(,&1 2 3 4 5 6 7))", "E:D\"0@((8&*)+(i8)[])", "C:(1&+)@([E)", "B:0");
        check("B:CB", "D:#@(32(<\\)(64&$)@(,&1 2 3 4 5 6 7))", "E:D\"0@((14&*)+(i14)[])", "C:(1&+)@([E)", "B:0");
        check("z");
        check("5 6 7 8");
        System.out.println("the room: " + wrong + " runs took too much");
        if (wrong > 0) {
            System.exit(1);
        }
    }
}
