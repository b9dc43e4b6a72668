/** Promise 28: shim. */
final class ShimBounds {
    private ShimBounds() {
    }

    static void all(Sentences s) {
        middle(s);
        shares(s);
        allParts(s);
        steps(s);
        noSuchShim(s);
        stepRefused(s);
        tooMany(s);
    }

    /** Chain 0 of a shim of a told size and share alone, right from low to high. */
    private static FitBench bench(int size, int share, int low, int high) {
        FitBench x = new FitBench();
        x.measure(11, 2, size, 0, 0);
        x.share(0, 11, share);
        x.ends(0, low, high);
        return x;
    }

    private static void middle(Sentences s) {
        s.says(28, "(whole sizes, by step one from another; its SIZE is the middle one's, "
                + "or of an even number the lower middle one's)");
        for (int up = 1; up <= 6; up++) {
            s.due(up + " up", bench(50, 1, 50 + up, 50 + up).shim(0, 11, 1), 2 * up);
            s.due(up + " down", bench(50, 1, 50 - up, 50 - up).shim(0, 11, 1), 2 * up + 1);
            s.due(up + " up by 7", bench(50, 1, 50 + 7 * up, 50 + 7 * up).shim(0, 11, 7), 2 * up);
            s.due(up + " down by 7", bench(50, 1, 50 - 7 * up, 50 - 7 * up).shim(0, 11, 7), 2 * up + 1);
        }
        s.due("none by 7 is between 1 and 6 up", bench(50, 1, 51, 56).shim(0, 11, 7), -2);
        s.due("one by 7 is between 1 and 7 up", bench(50, 1, 51, 57).shim(0, 11, 7), 2);
        s.due("one by 7 is between 7 and 1 down", bench(50, 1, 43, 49).shim(0, 11, 7), 3);
        s.due("none by 7 is between 6 and 1 down", bench(50, 1, 44, 49).shim(0, 11, 7), -2);
        s.due("its own SIZE", bench(50, 1, 50, 50).shim(0, 11, 1000), 1);
    }

    private static void shares(Sentences s) {
        s.says(28, "A SHIM in CHAIN c, with a SHARE of 1 or -1:");
        s.due("1", bench(0, 1, 3, 3).shim(0, 11, 1), 6);
        s.due("-1: it must be less for a greater GAP", bench(0, -1, 3, 3).shim(0, 11, 1), 7);
        s.due("-1: it must be more for a lesser GAP", bench(0, -1, -3, -3).shim(0, 11, 1), 6);
        s.due("-1, and a size", bench(20, -1, -23, -23).shim(0, 11, 3), 2);
        for (int share : new int[] {-3, -2, 0, 2, 3}) {
            s.due("share " + share, bench(0, share, 0, 0).shim(0, 11, 1), -1);
        }
        FitBench x = new FitBench();
        x.measure(0, 2, 0, 0, 0);
        x.share(5, 0, 1);
        s.due("in the last CHAIN", x.shim(5, 0, 1), 1);
        s.due("not in another one", x.shim(4, 0, 1), -1);
    }

    private static void allParts(Sentences s) {
        s.says(28, "are needed at least so that for all PARTS one of them makes the GAP right;");
        FitBench x = bench(0, 1, 0, 0);
        x.measure(0, 0, 0, -2, 0);
        x.share(0, 0, 1);
        s.due("-2 .. 0: up to 2 up", x.shim(0, 11, 1), 4);
        x.measure(0, 0, 0, 0, 2);
        s.due("0 .. 2: up to 2 down", x.shim(0, 11, 1), 5);
        x.measure(0, 0, 0, -3, 2);
        s.due("-3 .. 2: up to 3 up", x.shim(0, 11, 1), 6);
        x.book(0, -3, 0);
        s.due("those that are there 0 times, too", x.shim(0, 11, 1), 6);
        s.due("by 2 some are not met", x.shim(0, 11, 2), -2);
        x.ends(0, 0, 1);
        s.due("by 2: -3 by 4, 2 by -2", x.shim(0, 11, 2), 4);
        x.share(0, 0, 2);
        x.ends(0, 0, 0);
        s.due("-6, -4 .. 4 by 2", x.shim(0, 11, 2), 6);
        x.measure(0, 1, 0, -3, 2);
        s.due("held", x.shim(0, 11, 1), 1);
        x.measure(0, 2, 4, -3, 2);
        s.due("another shim has its size and no misses", x.shim(0, 11, 1), 17);
        x.measure(11, 2, 0, -5, 5);
        s.due("its own misses do not count", x.shim(0, 11, 1), 17);
        FitBench holes = bench(0, 1, 0, 1);
        for (int m = 0; m < 2; m++) {
            holes.measure(m, 0, 0, 0, 1);
        }
        for (int first = 1; first <= 3; first += 2) {
            holes.share(0, 0, first);
            holes.share(0, 1, 4 - first);
            // Gaps 0, 1, 3, 4: a 2 would not be met by 3.
            s.due("no 2: by 3", holes.shim(0, 11, 3), 3);
            s.due("no 2: by 2", holes.shim(0, 11, 2), 5);
            s.due("a 3: by 4", holes.shim(0, 11, 4), -2);
        }
        holes.measure(0, 0, 0, 0, 0);
        s.due("0, 1: no step is needed", holes.shim(0, 11, 3), 1);
        holes.ends(0, 0, 0);
        s.due("0, 1: by 1", holes.shim(0, 11, 1), 3);
        FitBench wide = bench(0, -1, 0, 0);
        for (int m = 0; m < 11; m++) {
            wide.measure(m, 0, 0, -40, 40);
            wide.share(0, m, m < 6 ? 2 : 0);
        }
        s.due("480 on each side", wide.shim(0, 11, 1), 961);
        s.due("more PARTS than may be for a CHANCE", spent().shim(0, 11, 1), 961);
    }

    private static FitBench spent() {
        FitBench x = bench(0, 1, 0, 0);
        for (int m = 0; m < 10; m++) {
            x.measure(m, 0, 0, -40, 40);
            x.share(0, m, m < 2 ? 2 : 1);
        }
        return x;
    }

    private static void steps(Sentences s) {
        s.says(28, "how many steps");
        s.due("one", bench(0, 1, 0, 0).shim(0, 11, 1), 1);
        s.due("two", bench(0, 1, 1, 1).shim(0, 11, 1), 2);
        s.due("three", bench(0, 1, -1, -1).shim(0, 11, 1), 3);
        FitBench x = bench(9, 1, 5, 13);
        s.due("one is right: how it is chosen does not change it", x.shim(0, 11, 2), 1);
        s.due("of(11, 1)", x.of(11, 1), 9);
    }

    private static void noSuchShim(Sentences s) {
        s.says(28, "NONE: no such CHAIN, or it is no such SHIM;");
        FitBench x = bench(0, 1, 0, 0);
        for (int c : Sentences.beyond(0, 5)) {
            s.due("c " + c, x.shim(c, 11, 1), -1);
        }
        for (int m : Sentences.beyond(0, 11)) {
            s.due("m " + m, x.shim(0, m, 1), -1);
        }
        x.share(0, 0, 1);
        s.due("FREE", x.shim(0, 0, 1), -1);
        x.measure(0, 1, 0, 0, 0);
        s.due("HELD", x.shim(0, 0, 1), -1);
        x.measure(0, 2, 0, 0, 0);
        s.due("SHIM", x.shim(0, 0, 1), 1);
        s.due("no SHARE", x.shim(1, 0, 1), -1);
    }

    private static void stepRefused(Sentences s) {
        s.says(28, "step not 1 .. 1000;");
        FitBench x = bench(0, 1, 1000, 1000);
        s.due("1", x.shim(0, 11, 1), 2000);
        s.due("1000", x.shim(0, 11, 1000), 2);
        for (int step : Sentences.beyond(1, 1000)) {
            s.due("step " + step, x.shim(0, 11, step), -1);
        }
    }

    private static void tooMany(Sentences s) {
        s.says(28, "-2: no number up to 2001 does.");
        s.due("1000 up", bench(0, 1, 1000, 1000).shim(0, 11, 1), 2000);
        s.due("1001 up", bench(0, 1, 1001, 1001).shim(0, 11, 1), -2);
        s.due("1000 down", bench(0, 1, -1000, -1000).shim(0, 11, 1), 2001);
        s.due("1001 down", bench(0, 1, -1001, -1001).shim(0, 11, 1), -2);
        s.due("up to 1000 down", bench(0, 1, -100000, -1000).shim(0, 11, 1), 2001);
        s.due("1000 up, against", bench(0, -1, -1000, -1000).shim(0, 11, 1), 2000);
        s.due("1000 down, against", bench(0, -1, 1000, 1000).shim(0, 11, 1), 2001);
        s.due("1001 down, against", bench(0, -1, 1001, 1001).shim(0, 11, 1), -2);
        s.due("by 1000: 100 up", bench(0, 1, 100000, 100000).shim(0, 11, 1000), 200);
        s.due("by 1000: 100 down", bench(0, 1, -100000, -100000).shim(0, 11, 1000), 201);
        s.due("by 1000, and 1 beside", bench(1, 1, 100000, 100000).shim(0, 11, 1000), -2);
        FitBench far = bench(10000, -1, 100000, 100000);
        for (int m = 0; m < 11; m++) {
            far.measure(m, 0, 10000, -40, 40);
            far.share(0, m, -3);
        }
        s.due("-340000 and misses", far.shim(0, 11, 1), -2);
        for (int m = 0; m < 11; m++) {
            far.measure(m, 1, 10000, -40, 40);
        }
        s.due("440000 by 1000, down", far.shim(0, 11, 1000), 881);
    }
}
