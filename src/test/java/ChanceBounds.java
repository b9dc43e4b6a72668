/** Promises 15 to 18: chance, both, mean, span. */
final class ChanceBounds {
    private static final int NO_SPAN = -10000000;

    private ChanceBounds() {
    }

    static void all(Sentences s) {
        parts(s);
        lowestTerms(s);
        chance(s);
        spent(s);
        both(s);
        bothOfOne(s);
        bothTooWide(s);
        bothRefused(s);
        mean(s);
        meanOfNone(s);
        span(s);
        spanEnds(s);
        spanRefused(s);
    }

    /** A measure of which so many parts are there: 9 for each of the misses from -40 on, and the rest for the last. */
    private static void lot(FitBench x, int m, int many) {
        int misses = (many + 8) / 9;
        x.measure(m, 0, 0, -Math.min(misses - 1, 40), Math.max(0, misses - 41));
        int left = many;
        int below = -Math.min(misses - 1, 40);
        for (int miss = below; miss < below + misses; miss++) {
            x.book(m, miss, Math.min(9, left));
            left -= Math.min(9, left);
        }
    }

    /** A chain of lots, and none of its gaps is wrong. */
    private static FitBench lots(int... many) {
        FitBench x = new FitBench();
        for (int m = 0; m < many.length; m++) {
            lot(x, m, many[m]);
            x.share(0, m, 1);
        }
        x.ends(0, -100000, 100000);
        return x;
    }

    private static void fraction(Sentences s, String name, long above, long below, long wantAbove, long wantBelow) {
        s.due(name + ", above the line", above, wantAbove);
        s.due(name + ", below the line", below, wantBelow);
    }

    private static void chanceDue(Sentences s, String name, FitBench x, long above, long below) {
        fraction(s, name, x.chance(0, 0), x.chance(0, 1), above, below);
    }

    private static void bothDue(Sentences s, String name, FitBench x, long above, long below) {
        fraction(s, name, x.both(0, 1, 0), x.both(0, 1, 1), above, below);
        fraction(s, name + ", turned", x.both(1, 0, 0), x.both(1, 0, 1), above, below);
    }

    private static void meanDue(Sentences s, String name, FitBench x, long above, long below) {
        fraction(s, name, x.mean(0, 0), x.mean(0, 1), above, below);
    }

    private static void spanDue(Sentences s, FitBench x, int part, int whole, int least, int greatest) {
        s.due("span(0, " + part + ", " + whole + ", 0)", x.span(0, part, whole, 0), least);
        s.due("span(0, " + part + ", " + whole + ", 1)", x.span(0, part, whole, 1), greatest);
    }

    private static void parts(Sentences s) {
        s.says(15, "PARTS: one miss from BELOW to ABOVE for each FREE MEASURE;");
        FitBench x = new FitBench();
        x.measure(0, 0, 0, -1, 1);
        x.measure(1, 0, 0, 0, 4);
        x.share(0, 0, 1);
        x.share(0, 1, 1);
        x.ends(0, 5, 5);
        chanceDue(s, "1 of 3 * 5", x, 1, 15);
        x.measure(1, 1, 4, 0, 4);
        chanceDue(s, "held: 1 of 3", x, 1, 3);
        x.measure(1, 2, 4, 0, 4);
        chanceDue(s, "shim: 1 of 3", x, 1, 3);
        s.says(15, "of a CHANCE as many as the product of the BOOKS' numbers tells,");
        x.measure(1, 0, 0, 0, 4);
        x.book(0, 1, 2);
        x.book(1, 4, 9);
        chanceDue(s, "18 of 4 * 13", x, 9, 26);
        x.book(1, 4, 0);
        chanceDue(s, "0 of 4 * 4", x, 0, 1);
        x.ends(0, 1, 100);
        x.measure(1, 0, 0, 0, 0);
        x.book(1, 0, 5);
        chanceDue(s, "5 that miss by 0 alone: 10 of 4 * 5", x, 1, 2);
        x.ends(0, -1, -1);
        chanceDue(s, "5 that miss by 0 alone: 5 of 4 * 5", x, 1, 4);
        x.ends(0, 1, 100);
        x.share(0, 2, 1);
        x.measure(2, 0, 0, 0, 1);
        x.measure(1, 0, 0, -1, 0);
        x.book(1, -1, 0);
        chanceDue(s, "none of the one miss: (0, 1), and twice (1, 0), (1, 1): 5 of 8", x, 5, 8);
        x.share(0, 2, 0);
        s.says(15, "of those MEASURES alone that have a SHARE in it.");
        x.share(0, 1, 0);
        x.ends(0, 1, 1);
        chanceDue(s, "2 of 4", x, 1, 2);
        x.share(1, 1, 1);
        chanceDue(s, "a SHARE in another CHAIN does not count", x, 1, 2);
        for (int m = 1; m < 12; m++) {
            x.measure(m, 0, 0, -40, 40);
        }
        chanceDue(s, "nor do the parts of the others", x, 1, 2);
    }

    private static void lowestTerms(Sentences s) {
        s.says(15, "CHANCES are fractions in lowest terms;");
        FitBench x = new FitBench();
        x.measure(0, 0, 0, 0, 11);
        x.share(0, 0, 1);
        int[][] want = {{0, 1}, {1, 12}, {1, 6}, {1, 4}, {1, 3}, {5, 12}, {1, 2}, {7, 12}, {2, 3}, {3, 4}, {5, 6},
            {11, 12}, {1, 1}};
        for (int right = 0; right <= 12; right++) {
            x.ends(0, right == 0 ? -5 : 0, right - 1);
            chanceDue(s, right + " of 12", x, want[right][0], want[right][1]);
        }
        FitBench full = lots(10, 10, 10, 10, 10, 10, 10, 10, 10, 10, 10, 10);
        chanceDue(s, "all of 1000000000000", full, 1, 1);
        full.ends(0, 1, 1);
        chanceDue(s, "none of 1000000000000", full, 0, 1);
    }

    private static void chance(Sentences s) {
        s.says(15, "The CHANCE that it is right: 0 above the line, 1 below it.");
        FitBench x = new FitBench();
        x.measure(0, 0, 100, -2, 2);
        x.share(0, 0, -1);
        x.ends(0, -98, -98);
        chanceDue(s, "the greatest GAP alone", x, 1, 5);
        x.ends(0, -102, -102);
        chanceDue(s, "the least GAP alone", x, 1, 5);
        x.ends(0, -97, 100000);
        chanceDue(s, "just beyond the greatest", x, 0, 1);
        x.ends(0, -100000, -103);
        chanceDue(s, "just beyond the least", x, 0, 1);
        x.ends(0, -101, -99);
        chanceDue(s, "but for the ends", x, 3, 5);
        x.share(0, 0, 0);
        chanceDue(s, "no SHARES, and 0 is wrong", x, 0, 1);
        x.ends(0, 0, 0);
        chanceDue(s, "no SHARES, and 0 is right", x, 1, 1);
        s.says(15, "NONE when there is none such;");
        for (int c : Sentences.beyond(0, 5)) {
            fraction(s, "c " + c, x.chance(c, 0), x.chance(c, 1), -1, -1);
        }
        for (int what : Sentences.beyond(0, 1)) {
            s.due("chance(0, " + what + ")", x.chance(0, what), -1);
        }
    }

    private static void spent(Sentences s) {
        s.says(15, "what has more than 1000000000000 PARTS in all is SPENT.");
        chanceDue(s, "1000000000000", lots(10, 10, 10, 10, 10, 10, 10, 10, 10, 10, 10, 10), 1, 1);
        chanceDue(s, "1000000000000 of fewer", lots(625, 625, 512, 500, 10), 1, 1);
        chanceDue(s, "1000000000212", lots(379, 586, 687, 226, 29), -2, -2);
        chanceDue(s, "1000000006940", lots(71, 71, 59, 62, 58, 17, 55), -2, -2);
        s.says(15, "-2 SPENT.");
        chanceDue(s, "all that can be", lots(729, 729, 729, 729, 729), -2, -2);
        // Products that are 0, below 0 or small again when they leave 64 bits.
        chanceDue(s, "64 to the 11th", lots(64, 64, 64, 64, 64, 64, 64, 64, 64, 64, 64), -2, -2);
        chanceDue(s, "128 to the 9th", lots(128, 128, 128, 128, 128, 128, 128, 128, 128), -2, -2);
        chanceDue(s, "96 to the 12th", lots(96, 96, 96, 96, 96, 96, 96, 96, 96, 96, 96, 96), -2, -2);
        FitBench x = lots(10, 10, 10, 10, 10, 10, 10, 10, 10, 10, 10, 10);
        x.book(11, -1, 8);
        x.book(11, 0, 3);
        chanceDue(s, "11 in place of 10", x, -2, -2);
        x.share(0, 11, 0);
        chanceDue(s, "without its SHARE", x, 1, 1);
        s.due("NONE ahead of SPENT", lots(729, 729, 729, 729, 729).chance(0, 2), -1);
    }

    private static void both(Sentences s) {
        s.says(16, "The CHANCE that the GAPS of two CHAINS are right, by the MEASURES of both: likewise");
        FitBench x = new FitBench();
        for (int m = 0; m < 3; m++) {
            x.measure(m, 0, 0, 0, 1);
        }
        x.share(0, 0, 1);
        x.share(1, 1, 1);
        x.ends(0, 1, 1);
        bothDue(s, "each by its own: 1 of 4", x, 1, 4);
        x.share(1, 0, -1);
        bothDue(s, "a part in both: (1, 1) of 4", x, 1, 4);
        x.ends(1, -1, -1);
        bothDue(s, "(1, 0) of 4", x, 1, 4);
        x.ends(1, 1, 1);
        bothDue(s, "never together", x, 0, 1);
        x.ends(1, -1, 0);
        bothDue(s, "(1, 0), (1, 1) of 4", x, 1, 2);
        x.book(2, 0, 9);
        bothDue(s, "one that has no SHARE in either does not count", x, 1, 2);
        x.share(0, 2, 3);
        bothDue(s, "1, and 0 of the third: 18 of 40", x, 9, 20);
        x.measure(2, 1, 0, 0, 1);
        bothDue(s, "held", x, 1, 2);
        s.says(16, "SPENT,");
        FitBench full = lots(10, 10, 10, 10, 10, 10, 10, 10, 10, 10, 10, 10);
        for (int m = 0; m < 6; m++) {
            full.share(0, m, 0);
            full.share(1, m, 1);
        }
        full.ends(1, -100000, 100000);
        bothDue(s, "1000000000000 together", full, 1, 1);
        lot(full, 0, 11);
        bothDue(s, "1100000000000 together", full, -2, -2);
        chanceDue(s, "though the one is not", full, 1, 1);
    }

    private static void bothOfOne(Sentences s) {
        s.says(16, "(of one and the same, too);");
        FitBench x = new FitBench();
        x.measure(0, 0, 0, -1, 1);
        x.measure(1, 0, 0, 0, 3);
        x.share(5, 0, 2);
        x.share(5, 1, -1);
        x.ends(5, -2, -1);
        fraction(s, "4 of 12", x.both(5, 5, 0), x.both(5, 5, 1), 1, 3);
        fraction(s, "as chance", x.chance(5, 0), x.chance(5, 1), 1, 3);
        fraction(s, "no SHARES", x.both(0, 0, 0), x.both(0, 0, 1), 1, 1);
        FitBench wide = new FitBench();
        wide.measure(0, 0, 0, -40, 40);
        wide.measure(1, 0, 0, -40, 40);
        wide.measure(2, 0, 0, 0, 23);
        wide.share(0, 0, 3);
        wide.share(0, 1, 2);
        wide.share(0, 2, 2);
        wide.ends(0, -1000, 1000);
        s.due("WIDTH 446", wide.worst(0, 1) - wide.worst(0, 0), 446);
        fraction(s, "447 * 447 is 199809", wide.both(0, 0, 0), wide.both(0, 0, 1), 1, 1);
        wide.measure(3, 0, 0, 0, 1);
        wide.share(0, 3, 1);
        fraction(s, "448 * 448 is 200704", wide.both(0, 0, 0), wide.both(0, 0, 1), -2, -2);
        chanceDue(s, "and by chance", wide, 1, 1);
    }

    private static void bothTooWide(Sentences s) {
        s.says(16, "WIDTH of a CHAIN: its greatest GAP less its least one.");
        FitBench x = new FitBench();
        int[] shares = {3, -1, 1};
        int[] otherShares = {3, -3, 0};
        for (int m = 0; m < 3; m++) {
            x.measure(m, 0, 5000, -40, m == 2 ? 19 : 40);
            x.share(0, m, shares[m]);
            x.share(1, m, otherShares[m]);
        }
        x.ends(0, -100000, 100000);
        x.ends(1, -100000, 100000);
        s.due("240 and 80 and 59", x.worst(0, 1) - x.worst(0, 0), 379);
        s.due("240 and 240", x.worst(1, 1) - x.worst(1, 0), 480);
        bothDue(s, "380 * 481 is 182780", x, 1, 1);
        s.says(16, "too, if (the one's WIDTH and 1) times (the other one's and 1) is above 200000.");
        x.measure(6, 0, 0, -10, 10);
        x.share(0, 6, 1);
        x.measure(7, 0, 0, 0, 19);
        x.share(1, 7, -1);
        bothDue(s, "400 * 500 is 200000", x, 1, 1);
        x.book(7, 0, 0);
        bothDue(s, "a BOOK does not narrow it", x, 1, 1);
        x.measure(7, 0, 0, 0, 20);
        x.book(7, 20, 0);
        bothDue(s, "nor does a 0 in it: 400 * 501", x, -2, -2);
        x.measure(7, 1, 0, 0, 20);
        bothDue(s, "held: 400 * 481", x, 1, 1);
        x.measure(6, 0, 0, -20, 9);
        x.measure(7, 0, 0, 0, 8);
        s.due("408", x.worst(0, 1) - x.worst(0, 0), 408);
        s.due("488", x.worst(1, 1) - x.worst(1, 0), 488);
        bothDue(s, "409 * 489 is 200001", x, -2, -2);
        FitBench narrow = new FitBench();
        for (int m = 0; m < 12; m++) {
            narrow.measure(m, 0, 0, m < 6 ? -40 : 0, m < 6 ? 40 : 0);
            narrow.share(0, m, 3);
        }
        narrow.ends(0, -10000, 10000);
        bothDue(s, "1441 * 1", narrow, 1, 1);
    }

    private static void bothRefused(Sentences s) {
        s.says(16, "likewise");
        FitBench x = Busy.bench();
        for (int c : Sentences.beyond(0, 5)) {
            fraction(s, "c " + c, x.both(c, 0, 0), x.both(c, 0, 1), -1, -1);
            fraction(s, "d " + c, x.both(0, c, 0), x.both(0, c, 1), -1, -1);
            fraction(s, "both " + c, x.both(c, c, 0), x.both(c, c, 1), -1, -1);
        }
        for (int what : Sentences.beyond(0, 1)) {
            s.due("both(0, 1, " + what + ")", x.both(0, 1, what), -1);
        }
        s.due("NONE ahead of SPENT", lots(729, 729, 729, 729, 729).both(0, 0, 2), -1);
    }

    private static void mean(Sentences s) {
        s.says(17, "The MEAN of the GAP: 0 above the line, 1 below it (lowest terms, above 0).");
        FitBench x = new FitBench();
        x.share(0, 0, 1);
        meanDue(s, "0", x, 0, 1);
        x.measure(0, 0, 0, -1, 0);
        meanDue(s, "-1 / 2", x, -1, 2);
        x.share(0, 0, -1);
        meanDue(s, "1 / 2", x, 1, 2);
        x.share(0, 0, 2);
        meanDue(s, "-2 / 2", x, -1, 1);
        x.measure(0, 0, -10, -1, 4);
        x.share(0, 0, 3);
        meanDue(s, "3 * (-60 + 9) / 6", x, -51, 2);
        x.book(0, 4, 0);
        x.book(0, 3, 9);
        meanDue(s, "3 * (-130 + 29) / 13", x, -303, 13);
        x.measure(0, 1, -10, -1, 4);
        meanDue(s, "held", x, -30, 1);
        x.measure(0, 0, 10, -10, 0);
        for (int miss = -10; miss < 0; miss++) {
            x.book(0, miss, 1);
        }
        x.book(0, 0, 0);
        meanDue(s, "3 * (100 - 55) / 10", x, 27, 2);
        for (int miss = -10; miss < -1; miss++) {
            x.book(0, miss, 0);
        }
        meanDue(s, "one part alone, that misses by -1", x, 27, 1);
        x.measure(0, 1, 10, -1, 0);
        x.measure(1, 0, 0, 0, 3);
        x.share(0, 1, 1);
        meanDue(s, "one held, and 3 / 2 of another one", x, 63, 2);
        FitBench far = new FitBench();
        for (int m = 0; m < 12; m++) {
            far.measure(m, 0, -10000, -9, 0);
            far.share(0, m, 3);
        }
        meanDue(s, "-36 * (10000 + 9 / 2)", far, -360162, 1);
        far.book(11, -9, 0);
        meanDue(s, "of 900000000000: 9 parts of -8 .. 0", far, -720321, 2);
    }

    private static void meanOfNone(Sentences s) {
        s.says(17, "Without such a CHAIN, or SPENT: 0 below the line (and above it).");
        FitBench x = lots(379, 586, 687, 226, 29);
        meanDue(s, "SPENT", x, 0, 0);
        x.measure(5, 0, 10000, 0, 0);
        x.share(0, 5, 3);
        meanDue(s, "SPENT, and the size is told", x, 0, 0);
        for (int c : Sentences.beyond(0, 5)) {
            fraction(s, "c " + c, x.mean(c, 0), x.mean(c, 1), 0, 0);
        }
        fraction(s, "no SHARES", x.mean(5, 0), x.mean(5, 1), 0, 1);
        FitBench full = lots(10, 10, 10, 10, 10, 10, 10, 10, 10, 10, 10, 10);
        // Each has 9 parts that miss by -1 and one that does not.
        meanDue(s, "1000000000000", full, -54, 5);
        s.says(17, "NONE for another what.");
        for (int what : Sentences.beyond(0, 1)) {
            s.due("mean(1, " + what + ")", x.mean(1, what), -1);
            s.due("SPENT: mean(0, " + what + ")", x.mean(0, what), -1);
            s.due("no such CHAIN: mean(6, " + what + ")", x.mean(6, what), -1);
        }
    }

    private static void span(Sentences s) {
        s.says(18, "The narrowest span of GAPS (of several the lowest) out of which fall at most part / whole");
        FitBench x = new FitBench();
        x.measure(0, 0, 0, 0, 9);
        x.share(0, 0, 1);
        spanDue(s, x, 0, 1, 0, 9);
        spanDue(s, x, 1, 10, 0, 8);
        spanDue(s, x, 99, 1000, 0, 9);
        spanDue(s, x, 199, 1000, 0, 8);
        spanDue(s, x, 9, 10, 0, 0);
        x.book(0, 7, 2);
        spanDue(s, x, 9, 11, 7, 7);
        spanDue(s, x, 8, 11, 6, 7);
        spanDue(s, x, 10, 11, 0, 0);
        x.book(0, 8, 2);
        spanDue(s, x, 8, 12, 7, 8);
        spanDue(s, x, 10, 12, 7, 7);
        s.says(18, "(0 .. 1000 / 1 .. 1000, part not above whole) of the PARTS:");
        spanDue(s, x, 0, 1, 0, 9);
        spanDue(s, x, 0, 1000, 0, 9);
        spanDue(s, x, 999, 1000, 0, 0);
        for (int part : Sentences.beyond(0, 1000)) {
            spanDue(s, x, part, 1000, NO_SPAN, NO_SPAN);
        }
        for (int whole : Sentences.beyond(1, 1000)) {
            spanDue(s, x, 0, whole, NO_SPAN, NO_SPAN);
        }
        spanDue(s, x, 2, 1, NO_SPAN, NO_SPAN);
        spanDue(s, x, 1000, 999, NO_SPAN, NO_SPAN);
        spanDue(s, x, -1, -2, NO_SPAN, NO_SPAN);
        FitBench full = lots(10, 10, 10, 10, 10, 10, 10, 10, 10, 10, 10, 10);
        // Of 1000000000000, 282429536481 are at -12, 376572715308 at -11, 230127770466 at -10.
        spanDue(s, full, 717, 1000, -11, -11);
        spanDue(s, full, 718, 1000, -12, -12);
        spanDue(s, full, 340, 1000, -12, -10);
        spanDue(s, full, 341, 1000, -12, -11);
    }

    private static void spanEnds(Sentences s) {
        s.says(18, "its least (0), its greatest (1) GAP:");
        FitBench x = new FitBench();
        x.measure(11, 0, 100, -3, 1);
        x.share(0, 11, -3);
        spanDue(s, x, 0, 1, -303, -291);
        spanDue(s, x, 1, 5, -303, -294);
        spanDue(s, x, 4, 5, -303, -303);
        s.says(18, "both are GAPS of PARTS that are there more than 0 times.");
        x.book(11, 1, 0);
        x.book(11, -3, 0);
        spanDue(s, x, 0, 1, -300, -294);
        x.book(11, -1, 0);
        spanDue(s, x, 0, 1, -300, -294);
        spanDue(s, x, 49, 100, -300, -294);
        spanDue(s, x, 1, 2, -300, -300);
        x.book(11, 0, 0);
        spanDue(s, x, 0, 1, -294, -294);
        spanDue(s, x, 999, 1000, -294, -294);
        FitBench no = new FitBench();
        spanDue(s, no, 0, 1, 0, 0);
        spanDue(s, no, 999, 1000, 0, 0);
    }

    private static void spanRefused(Sentences s) {
        s.says(18, "-10000000 when there is none such, or SPENT;");
        FitBench x = Busy.bench();
        for (int c : Sentences.beyond(0, 5)) {
            s.due("span(" + c + ", 0, 1, 0)", x.span(c, 0, 1, 0), NO_SPAN);
            s.due("span(" + c + ", 0, 1, 1)", x.span(c, 0, 1, 1), NO_SPAN);
        }
        for (int what : Sentences.beyond(0, 1)) {
            s.due("span(0, 0, 1, " + what + ")", x.span(0, 0, 1, what), NO_SPAN);
        }
        spanDue(s, lots(379, 586, 687, 226, 29), 0, 1, NO_SPAN, NO_SPAN);
        spanDue(s, lots(64, 64, 64, 64, 64, 64, 64, 64, 64, 64, 64), 0, 1, NO_SPAN, NO_SPAN);
        spanDue(s, lots(10, 10, 10, 10, 10, 10, 10, 10, 10, 10, 10, 10), 0, 1, -12, 0);
        s.says(18, "nor if part is whole.");
        for (int whole : new int[] {1, 2, 999, 1000}) {
            spanDue(s, x, whole, whole, NO_SPAN, NO_SPAN);
        }
    }
}
