/** Promises 12 to 14 and 19: worst, corner, always, pull. */
final class GapBounds {
    private GapBounds() {
    }

    static void all(Sentences s) {
        gap(s);
        worst(s);
        worstRefused(s);
        corner(s);
        cornerOfNone(s);
        right(s);
        always(s);
        pull(s);
        pullRefused(s);
    }

    /** Sizes, misses and shares as great as they can be: gaps of 358560 .. 361440, or the same below 0. */
    private static FitBench farthest(int share) {
        FitBench x = new FitBench();
        for (int m = 0; m < 12; m++) {
            x.measure(m, 0, 10000, -40, 40);
            x.share(0, m, share);
        }
        return x;
    }

    private static void gap(Sentences s) {
        s.says(12, "The GAP of a CHAIN, when each MEASURE has some miss: the sum of SHARE times (SIZE and miss);");
        s.due("all at their greatest", farthest(3).worst(0, 1), 361440);
        s.due("all at their least", farthest(-3).worst(0, 0), -361440);
        FitBench x = new FitBench();
        x.measure(0, 0, 100, -4, 1);
        x.measure(1, 0, -30, -2, 3);
        x.share(0, 0, 2);
        x.share(0, 1, -3);
        s.due("200 - 8 + 90 - 9", x.worst(0, 0), 273);
        s.due("200 + 2 + 90 + 6", x.worst(0, 1), 298);
        s.due("200 + 90", x.worst(0, 2), 290);
        s.due("an empty sum", x.worst(1, 0), 0);
    }

    private static void worst(Sentences s) {
        s.says(12, "The least (0), the greatest (1) GAP of a CHAIN;");
        FitBench x = new FitBench();
        x.measure(11, 0, 7, -40, 0);
        x.share(5, 11, 1);
        s.due("misses below alone: least", x.worst(5, 0), -33);
        s.due("misses below alone: greatest", x.worst(5, 1), 7);
        x.share(5, 11, -1);
        s.due("against: least", x.worst(5, 0), -7);
        s.due("against: greatest", x.worst(5, 1), 33);
        x.book(11, -40, 0);
        s.due("booked as 0 parts, and still a miss", x.worst(5, 1), 33);
        x.measure(11, 0, 7, 0, 0);
        s.due("no misses: least", x.worst(5, 0), -7);
        s.due("no misses: greatest", x.worst(5, 1), -7);
        s.says(12, "the one with all misses 0 (2).");
        s.due("as far as can be", farthest(3).worst(0, 2), 360000);
        s.due("as far below as can be", farthest(-3).worst(0, 2), -360000);
        x.measure(11, 0, 7, -40, 0);
        s.due("not the middle", x.worst(5, 2), -7);
        s.due("no shares", x.worst(4, 2), 0);
    }

    private static void worstRefused(Sentences s) {
        s.says(12, "-10000000 when there is none such.");
        FitBench x = farthest(1);
        for (int c : Sentences.beyond(0, 5)) {
            s.due("worst(" + c + ", 0)", x.worst(c, 0), -10000000);
            s.due("worst(" + c + ", 2)", x.worst(c, 2), -10000000);
        }
        for (int what : Sentences.beyond(0, 2)) {
            s.due("worst(0, " + what + ")", x.worst(0, what), -10000000);
        }
    }

    private static void corner(Sentences s) {
        s.says(13, "The miss of a MEASURE in the least (0) or greatest (1) GAP of a CHAIN");
        FitBench x = new FitBench();
        x.measure(0, 0, 5, -40, 39);
        x.measure(11, 0, -5, -39, 40);
        x.share(5, 0, 3);
        x.share(5, 11, -1);
        s.due("least", x.corner(5, 0, 0), -40);
        s.due("greatest", x.corner(5, 0, 1), 39);
        s.due("least, against", x.corner(5, 11, 0), 40);
        s.due("greatest, against", x.corner(5, 11, 1), -39);
        x.book(0, -40, 0);
        s.due("booked as 0 parts, and still a miss", x.corner(5, 0, 0), -40);
        x.measure(0, 0, 5, 0, 3);
        s.due("least, none below 0", x.corner(5, 0, 0), 0);
        s.due("greatest, none below 0", x.corner(5, 0, 1), 3);
    }

    private static void cornerOfNone(Sentences s) {
        s.says(13, "(0 if it has no SHARE, or is not FREE).");
        FitBench x = new FitBench();
        for (int kind = 0; kind < 3; kind++) {
            x.measure(kind, kind, 5, -7, 8);
            x.share(0, kind, kind == 0 ? 0 : 1);
            s.due("kind " + kind + ", least", x.corner(0, kind, 0), 0);
            s.due("kind " + kind + ", greatest", x.corner(0, kind, 1), 0);
        }
        x.share(1, 0, 1);
        s.due("a share in another one", x.corner(0, 0, 0), 0);
        s.due("a share in this one", x.corner(1, 0, 0), -7);
        s.says(13, "-1000 when there is none such.");
        for (int c : Sentences.beyond(0, 5)) {
            s.due("corner(" + c + ", 0, 0)", x.corner(c, 0, 0), -1000);
        }
        for (int m : Sentences.beyond(0, 11)) {
            s.due("corner(0, " + m + ", 0)", x.corner(0, m, 0), -1000);
        }
        for (int which : Sentences.beyond(0, 1)) {
            s.due("corner(0, 0, " + which + ")", x.corner(0, 0, which), -1000);
        }
    }

    private static void right(Sentences s) {
        s.says(14, "it is right from LOW to HIGH.");
        FitBench x = new FitBench();
        x.measure(0, 0, 10, 0, 0);
        x.share(0, 0, 1);
        int[][] ends = {{10, 10, 1}, {10, 11, 1}, {9, 10, 1}, {11, 12, 0}, {8, 9, 0}, {-100000, 100000, 1}};
        for (int[] each : ends) {
            x.ends(0, each[0], each[1]);
            s.due(each[0] + " .. " + each[1], x.always(0), each[2]);
            s.due(each[0] + " .. " + each[1] + ", the chance", x.chance(0, 0), each[2]);
        }
        FitBench far = farthest(3);
        far.ends(0, -100000, 100000);
        s.due("beyond all ends", far.always(0), 0);
        far.share(1, 0, 3);
        far.share(1, 1, 3);
        far.share(1, 2, 3);
        far.share(1, 3, 1);
        far.ends(1, -100000, 100000);
        s.due("100000, and misses", far.always(1), 0);
        for (int m = 0; m < 4; m++) {
            far.measure(m, 1, 10000, -40, 40);
        }
        s.due("100000, held", far.always(1), 1);
    }

    private static void always(Sentences s) {
        s.says(14, "Whether a CHAIN's GAP is always right: 1, 0;");
        FitBench x = new FitBench();
        x.measure(0, 0, 0, -2, 3);
        x.share(0, 0, -1);
        x.ends(0, -3, 2);
        s.due("just", x.always(0), 1);
        x.ends(0, -2, 2);
        s.due("LOW too high by 1", x.always(0), 0);
        x.ends(0, -3, 1);
        s.due("HIGH too low by 1", x.always(0), 0);
        x.book(0, -2, 0);
        s.due("booked as 0 parts, and still a miss", x.always(0), 0);
        s.due("no shares, 0 .. 0", x.always(1), 1);
        x.ends(1, 1, 1);
        s.due("no shares, 1 .. 1", x.always(1), 0);
        x.ends(1, -1, -1);
        s.due("no shares, -1 .. -1", x.always(1), 0);
        s.says(14, "NONE when there is none such.");
        for (int c : Sentences.beyond(0, 5)) {
            s.due("always(" + c + ")", x.always(c), -1);
        }
    }

    private static void pull(Sentences s) {
        s.says(19, "What a MEASURE takes of a CHAIN's width: "
                + "by how much the greatest GAP less the least one would be less without its misses.");
        FitBench x = farthest(-3);
        for (int m = 0; m < 12; m++) {
            s.due("pull(0, " + m + ")", x.pull(0, m), 240);
        }
        s.due("no share", x.pull(1, 0), 0);
        x.share(5, 11, 1);
        s.due("share 1", x.pull(5, 11), 80);
        x.measure(11, 0, 9, 0, 0);
        s.due("no misses", x.pull(5, 11), 0);
        x.measure(11, 0, 9, -1, 0);
        s.due("BELOW alone", x.pull(5, 11), 1);
        x.book(11, -1, 0);
        s.due("booked as 0 parts, and still a miss", x.pull(5, 11), 1);
        x.measure(11, 1, 9, -1, 0);
        s.due("held", x.pull(5, 11), 0);
        x.measure(11, 2, 9, -1, 0);
        s.due("shim", x.pull(5, 11), 0);
        FitBench two = Busy.bench();
        for (int m = 0; m < 9; m++) {
            int wide = two.worst(0, 1) - two.worst(0, 0);
            int pull = two.pull(0, m);
            two.measure(m, 1, two.of(m, 1), 0, 0);
            s.due("width without " + m, two.worst(0, 1) - two.worst(0, 0), wide - pull);
        }
    }

    private static void pullRefused(Sentences s) {
        s.says(19, "NONE when there is none such.");
        FitBench x = farthest(1);
        for (int c : Sentences.beyond(0, 5)) {
            s.due("pull(" + c + ", 0)", x.pull(c, 0), -1);
        }
        for (int m : Sentences.beyond(0, 11)) {
            s.due("pull(0, " + m + ")", x.pull(0, m), -1);
        }
    }
}
