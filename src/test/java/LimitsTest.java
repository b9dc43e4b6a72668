import java.lang.management.ManagementFactory;

/** The dearest calls, as many as an object may take: they end soon, and what they make is little. */
public final class LimitsTest {
    /** With those that set the bench up, no more than the 512 that an object may take. */
    private static final int CALLS = 430;
    private static final int CALLS_WITH_BOOKS = 85;
    /** A tenth of the 7.3 million fields and elements of the room, of 8 bytes each. */
    private static final long MOST_BYTES = 730000L * 8;
    private static final long MOST_SECONDS = 60;
    private static int wrong = 0;

    public static void main(String[] args) {
        String[] names = {"images", "both", "both with books", "chance", "best", "shim", "match", "round"};
        for (int kind = 0; kind < names.length; kind++) {
            run(kind, names[kind]);
        }
        System.out.println(wrong == 0 ? "all limits are kept" : wrong + " limits are not kept");
        if (wrong != 0) {
            System.exit(1);
        }
    }

    private static void run(int kind, String name) {
        // Once ahead, so that loading of classes is not counted.
        FitBench first = bench(kind);
        ask(first, kind, 1);
        long bytes = allocated();
        long time = System.nanoTime();
        FitBench x = bench(kind);
        ask(x, kind, kind == 2 ? CALLS_WITH_BOOKS : CALLS);
        long seconds = (System.nanoTime() - time) / 1000000000L;
        bytes = allocated() - bytes;
        if (bytes > MOST_BYTES || seconds > MOST_SECONDS) {
            wrong++;
            System.out.println(name + " took " + bytes + " bytes and " + seconds + " seconds");
        }
    }

    private static long allocated() {
        java.lang.management.ThreadMXBean threads = ManagementFactory.getThreadMXBean();
        return threads instanceof com.sun.management.ThreadMXBean mine ? mine.getThreadAllocatedBytes(
                Thread.currentThread().getId()) : 0;
    }

    private static FitBench bench(int kind) {
        FitBench x = new FitBench();
        int measures = kind == 3 || kind == 5 ? 6 : 5;
        for (int m = 0; m < measures; m++) {
            x.measure(m, 0, m, -40, 40);
            x.share(0, m, kind == 3 || kind == 5 ? 3 : 1);
            x.share(1, m, m % 2 == 0 ? 1 : -1);
            for (int miss = -40; kind == 2 && miss <= 40; miss++) {
                x.book(m, miss, (miss & 3) + 1);
            }
        }
        if (kind == 2) {
            // As many parts as may be with the numbers told.
            x.measure(4, 0, 4, -40, 40);
        }
        x.ends(0, -100, 100);
        x.ends(1, -100, 100);
        x.measure(11, 2, 0, 0, 0);
        x.share(0, 11, 1);
        for (int m = 0; kind == 4 && m < 8; m++) {
            x.measure(m, 0, 0, 0, 0);
            x.share(0, m, 1);
            for (int l = 0; l < 4; l++) {
                // Each choice is cheaper than the one ahead of it, so that none can be passed over.
                x.level(m, 0, 0, (3 - l) << 2 * (7 - m));
            }
        }
        for (int k = 0; kind == 6 && k < 24; k++) {
            x.part(0, k * 7 % 24);
            x.part(1, k * 5 % 24);
        }
        for (int m = 0; kind == 7 && m < 12; m++) {
            x.join(m, m / 3, m / 3 + 1);
        }
        return x;
    }

    private static void ask(FitBench x, int kind, int calls) {
        for (int call = 0; call < calls; call++) {
            switch (kind) {
                case 0 -> due("image", (call % 2 == 0 ? x.image(call / 2 % 3) : x.back(call / 2 % 3)) ? 1 : 0, 1);
                case 1, 2 -> due("both", x.both(0, 1, 0) > 0 ? 1 : 0, 1);
                case 3 -> due("chance", x.chance(0, 0) > 0 ? 1 : 0, 1);
                case 4 -> due("best", x.best(), 0);
                case 5 -> due("shim", x.shim(0, 11, 1), 1331);
                case 6 -> due("match", x.match(0, 3), 24);
                default -> due("round", x.round(2, 0, 11), 0);
            }
        }
    }

    private static void due(String name, long got, long want) {
        if (got != want) {
            wrong++;
            System.out.println(name + " answered " + got + ", due is " + want);
        }
    }
}
