/** Promises 24 to 27: part, sweep, match, mate. */
final class LotBounds {
    private LotBounds() {
    }

    static void all(Sentences s) {
        lots(s);
        partRefused(s);
        sweep(s);
        fit(s);
        pairs(s);
        match(s);
        matchRefused(s);
        mate(s);
        mateOrder(s);
        mateAsItWas(s);
    }

    private static FitBench bench(int[] first, int[] second) {
        FitBench x = new FitBench();
        for (int size : first) {
            x.part(0, size);
        }
        for (int size : second) {
            x.part(1, size);
        }
        return x;
    }

    private static void mates(Sentences s, FitBench x, int... want) {
        for (int k = 0; k < want.length; k++) {
            s.due("mate(" + k + ")", x.mate(k), want[k]);
        }
    }

    private static void lots(Sentences s) {
        s.says(24, "IV. LOTS 0, 1: up to 24 parts with whole sizes (-10000 .. 10000).");
        FitBench x = new FitBench();
        for (int lot = 0; lot < 2; lot++) {
            for (int k = 1; k <= 24; k++) {
                s.due("part " + k + " of lot " + lot, x.part(lot, k % 2 == 0 ? -10000 : 10000), k);
            }
            s.due("part 25 of lot " + lot, x.part(lot, 0), -1);
        }
        s.due("all fit", x.match(-20000, 20000), 24);
        s.due("the same sizes fit", x.match(0, 0), 24);
        s.due("12 of each", x.match(20000, 20000), 12);
        s.says(24, "A part more of a LOT: how many;");
        FitBench y = new FitBench();
        s.due("the first of 0", y.part(0, 5), 1);
        s.due("the first of 1", y.part(1, 5), 1);
        s.due("the same size again", y.part(0, 5), 2);
        y.sweep(0);
        s.due("the first again", y.part(0, 5), 1);
        s.due("the second of 1", y.part(1, 5), 2);
    }

    private static void partRefused(Sentences s) {
        s.says(24, "NONE: no such LOT,");
        FitBench x = new FitBench();
        for (int lot : Sentences.beyond(0, 1)) {
            s.due("lot " + lot, x.part(lot, 0), -1);
        }
        s.says(24, "it has 24,");
        for (int k = 0; k < 24; k++) {
            x.part(1, 7);
        }
        s.due("the 25th", x.part(1, 7), -1);
        s.due("the 25th again", x.part(1, 7), -1);
        s.due("it has 24 still", x.sweep(1), 24);
        s.says(24, "or the size can't be.");
        for (int size : Sentences.beyond(-10000, 10000)) {
            s.due("size " + size, x.part(0, size), -1);
            s.due("size " + size, x.part(1, size), -1);
        }
        s.due("none came", x.sweep(0), 0);
        s.changesNothing("refused part", y -> {
            for (int lot = -1; lot <= 2; lot++) {
                y.part(lot, -10001);
                y.part(lot, 10001);
            }
            y.part(-1, 0);
            y.part(2, 0);
        });
    }

    private static void sweep(Sentences s) {
        s.says(25, "All parts of a LOT go: how many there were;");
        FitBench x = new FitBench();
        s.due("none at first", x.sweep(0), 0);
        for (int k = 0; k < 24; k++) {
            x.part(0, k);
            x.part(1, k);
        }
        s.due("24", x.sweep(0), 24);
        s.due("none are left", x.sweep(0), 0);
        s.due("no pairs", x.match(-30000, 30000), 0);
        s.due("numbered anew", x.part(0, 23), 1);
        s.due("those of the other lot stay", x.match(0, 0), 1);
        s.due("with the last", x.mate(0), 23);
        s.due("24", x.sweep(1), 24);
        s.says(25, "NONE when there is none such.");
        for (int lot : Sentences.beyond(0, 1)) {
            s.due("lot " + lot, x.sweep(lot), -1);
        }
        s.changesNothing("sweep of none", y -> {
            y.sweep(-1);
            y.sweep(2);
            y.sweep(Integer.MIN_VALUE);
            y.sweep(Integer.MAX_VALUE);
        });
    }

    private static void fit(Sentences s) {
        s.says(26, "Two parts, a of LOT 0 and b of LOT 1, FIT, if b less a is from a told low one to a told high one.");
        FitBench x = bench(new int[] {100}, new int[] {107});
        int[][] ends = {{7, 7, 1}, {7, 8, 1}, {6, 7, 1}, {8, 9, 0}, {5, 6, 0}, {-7, -7, 0}, {-30000, 30000, 1}};
        for (int[] each : ends) {
            s.due("match(" + each[0] + ", " + each[1] + ")", x.match(each[0], each[1]), each[2]);
        }
        FitBench far = bench(new int[] {-10000}, new int[] {10000});
        s.due("20000", far.match(20000, 20000), 1);
        s.due("19999", far.match(-30000, 19999), 0);
        s.due("20001", far.match(20001, 30000), 0);
        FitBench back = bench(new int[] {10000}, new int[] {-10000});
        s.due("-20000", back.match(-20000, -20000), 1);
        s.due("-19999", back.match(-19999, 30000), 0);
        s.due("-20001", back.match(-30000, -20001), 0);
    }

    private static void pairs(Sentences s) {
        s.says(26, "Pairs: each part in one at most.");
        s.due("one for two", bench(new int[] {1, 1}, new int[] {1}).match(0, 0), 1);
        s.due("two for one", bench(new int[] {1}, new int[] {1, 1}).match(0, 0), 1);
        s.due("two for two", bench(new int[] {1, 1}, new int[] {1, 1}).match(0, 0), 2);
        s.due("one for three, of which the last fits", bench(new int[] {1, 2, 9}, new int[] {9}).match(0, 0), 1);
        s.due("three for one, of which the last fits", bench(new int[] {9}, new int[] {1, 2, 9}).match(0, 0), 1);
        s.due("none for none", new FitBench().match(0, 0), 0);
        s.due("none for one", bench(new int[] {1}, new int[] {}).match(-30000, 30000), 0);
        s.due("one for none", bench(new int[] {}, new int[] {1}).match(-30000, 30000), 0);
    }

    private static void match(Sentences s) {
        s.says(26, "The most pairs of parts that FIT (low not above high; each -30000 .. 30000);");
        // To take the first that fits, as they came, would leave one without.
        FitBench x = bench(new int[] {5, 0}, new int[] {5, 8});
        s.due("5 must take the 8", x.match(0, 5), 2);
        FitBench y = bench(new int[] {0, 3, 6, 9}, new int[] {12, 9, 6, 3});
        s.due("each the next one", y.match(3, 3), 4);
        s.due("each the same one", y.match(0, 0), 3);
        s.due("each the next or the next but one", y.match(3, 6), 4);
        s.due("6 alone", y.match(6, 6), 3);
        s.due("12 alone", y.match(12, 12), 1);
        s.due("none", y.match(13, 30000), 0);
        s.due("low is high, the least", y.match(-30000, -30000), 0);
        s.due("low is high, the greatest", y.match(30000, 30000), 0);
        s.due("widest", y.match(-30000, 30000), 4);
    }

    private static void matchRefused(Sentences s) {
        s.says(26, "NONE when that can't be.");
        FitBench x = bench(new int[] {1}, new int[] {1});
        s.due("low above high by 1", x.match(1, 0), -1);
        s.due("low far above high", x.match(30000, -30000), -1);
        for (int end : Sentences.beyond(-30000, 30000)) {
            s.due("low " + end, x.match(end, 30000), -1);
            s.due("high " + end, x.match(-30000, end), -1);
            s.due("both " + end, x.match(end, end), -1);
        }
        s.due("no pair was made", x.mate(0), -1);
        s.changesNothing("refused match", y -> {
            y.match(1, 0);
            y.match(-30001, 0);
            y.match(0, 30001);
            y.match(Integer.MIN_VALUE, Integer.MAX_VALUE);
        });
    }

    private static void mate(Sentences s) {
        s.says(27, "The part of LOT 1 (its number, from 0 on as they came) with which part k of LOT 0 is paired "
                + "by the latest match() that was not refused:");
        FitBench x = new FitBench();
        for (int k = 0; k < 24; k++) {
            x.part(0, 10 * k);
            x.part(1, 230 - 10 * k);
        }
        s.due("match", x.match(0, 0), 24);
        for (int k = 0; k < 24; k++) {
            s.due("mate(" + k + ")", x.mate(k), 23 - k);
        }
        s.due("match", x.match(10, 10), 23);
        for (int k = 0; k < 24; k++) {
            s.due("the latest: mate(" + k + ")", x.mate(k), 22 - k);
        }
        s.due("refused", x.match(10, 9), -1);
        s.due("refused", x.match(0, 30001), -1);
        for (int k = 0; k < 24; k++) {
            s.due("as it was: mate(" + k + ")", x.mate(k), 22 - k);
        }
        s.due("no pairs", x.match(5, 5), 0);
        for (int k = 0; k < 24; k++) {
            s.due("none: mate(" + k + ")", x.mate(k), -1);
        }
    }

    private static void mateOrder(Sentences s) {
        s.says(27, "parts of LOT 0 by size (of the same size as they came),");
        FitBench x = bench(new int[] {9, 4, 9, 4, 4}, new int[] {10, 10, 5});
        s.due("match", x.match(1, 6), 3);
        mates(s, x, -1, 2, -1, 0, 1);
        FitBench below = bench(new int[] {0, -10000, 10000}, new int[] {0});
        s.due("match", below.match(-30000, 30000), 1);
        mates(s, below, -1, 0, -1);
        s.says(27, "each with the least one left that FITS (of the same size the first);");
        FitBench y = bench(new int[] {0, 1, 2}, new int[] {7, 3, 3, -1, 2});
        s.due("match", y.match(0, 5), 3);
        mates(s, y, 4, 1, 2);
        FitBench z = bench(new int[] {0, 100}, new int[] {6, 5, 6, 106});
        s.due("match", z.match(6, 6), 2);
        mates(s, z, 0, 3);
        FitBench last = new FitBench();
        for (int k = 0; k < 24; k++) {
            last.part(1, k < 22 ? 9000 : 1);
        }
        last.part(0, 0);
        last.part(0, 0);
        last.part(0, 0);
        s.due("match", last.match(1, 1), 2);
        mates(s, last, 22, 23, -1);
    }

    private static void mateAsItWas(Sentences s) {
        s.says(27, "NONE.");
        FitBench x = new FitBench();
        for (int k = 0; k < 24; k++) {
            s.due("ahead of any: mate(" + k + ")", x.mate(k), -1);
        }
        x.part(0, 1);
        x.part(0, 8);
        x.part(1, 1);
        x.match(0, 0);
        s.due("paired", x.mate(0), 0);
        s.due("not paired", x.mate(1), -1);
        s.due("no such part", x.mate(2), -1);
        for (int k : Sentences.beyond(0, 23)) {
            s.due("mate(" + k + ")", x.mate(k), -1);
        }
        s.says(27, "(Behind part(), sweep() as it was.)");
        FitBench y = bench(new int[] {3, 1}, new int[] {1, 3});
        y.match(0, 0);
        y.part(0, 0);
        y.part(1, 0);
        mates(s, y, 1, 0, -1);
        y.sweep(1);
        mates(s, y, 1, 0, -1);
        y.sweep(0);
        mates(s, y, 1, 0, -1);
        y.part(0, 7);
        mates(s, y, 1, 0, -1);
        y.match(0, 0);
        mates(s, y, -1, -1, -1);
    }
}
