/** Promises 1 to 5: a new object, measure, book, tear, of. */
final class MeasureBounds {
    private MeasureBounds() {
    }

    static void all(Sentences s) {
        newObject(s);
        calls(s);
        none(s);
        sizes(s);
        misses(s);
        kinds(s);
        measure(s);
        bookGoesWithMeasure(s);
        measureRefused(s);
        bookNumbers(s);
        bookBegins(s);
        bookRefused(s);
        bookOfNothing(s);
        tear(s);
        of(s);
    }

    private static void newObject(Sentences s) {
        s.says(1, "All as at first.");
        FitBench other = Busy.bench();
        other.image(0);
        FitBench x = new FitBench();
        for (int m = 0; m < 12; m++) {
            for (int what = 0; what < 8; what++) {
                s.due("of(" + m + ", " + what + ")", x.of(m, what), what < 6 ? 0 : -1);
            }
            s.due("choice(" + m + ")", x.choice(m), -1);
        }
        for (int c = 0; c < 6; c++) {
            for (int what = 0; what < 15; what++) {
                s.due("chain(" + c + ", " + what + ")", x.chain(c, what), 0);
            }
            s.due("chance(" + c + ", 0)", x.chance(c, 0), 1);
            s.due("chance(" + c + ", 1)", x.chance(c, 1), 1);
        }
        for (int k = 0; k < 24; k++) {
            s.due("mate(" + k + ")", x.mate(k), -1);
        }
        for (int place = 0; place < 3; place++) {
            s.no("back(" + place + ")", x.back(place));
        }
        s.due("over()", x.over(), 0);
        s.due("best()", x.best(), 0);
        s.due("match", x.match(-30000, 30000), 0);
        s.due("part(0, 5)", x.part(0, 5), 1);
        s.due("part(1, 5)", x.part(1, 5), 1);
    }

    private static void calls(Sentences s) {
        s.says(1, "An object is used for at most 512 calls after it has been made; what later calls answer is free.");
        FitBench x = new FitBench();
        x.measure(3, 0, 77, -1, 1);
        x.share(0, 3, 2);
        for (int call = 2; call < 511; call++) {
            s.yes("call " + call, x.image(call % 3));
        }
        s.due("call 512", x.worst(0, 1), 156);
    }

    private static void none(Sentences s) {
        s.says(1, "The constants: `NONE = -1`: There is none; it is refused.");
        s.due("NONE", FitBench.NONE, -1);
        // What the bench is for needs no test of its own, but it stands among the sentences.
        s.says(1, "A bench for things put together of parts: measures that may miss by told little, drawings of faces "
                + "that they join, chains of measures whose gaps must be right; worst gaps and chances exact, which "
                + "measure matters, the least price of care, parts of two lots chosen for one another, shims.");
        s.due("over()", new FitBench().over(), 0);
    }

    private static void sizes(Sentences s) {
        s.says(2, "I. MEASURES 0 .. 11 have a SIZE (whole, -10000 .. 10000; 0 at first)");
        FitBench x = new FitBench();
        s.due("of(0, 1)", x.of(0, 1), 0);
        s.due("of(11, 1)", x.of(11, 1), 0);
        s.yes("measure 0, -10000", x.measure(0, 0, -10000, 0, 0));
        s.yes("measure 11, 10000", x.measure(11, 0, 10000, 0, 0));
        for (int size : Sentences.beyond(-10000, 10000)) {
            s.no("measure 0, " + size, x.measure(0, 0, size, 0, 0));
            s.no("measure 11, " + size, x.measure(11, 2, size, 0, 0));
        }
        s.due("of(0, 1)", x.of(0, 1), -10000);
        s.due("of(11, 1)", x.of(11, 1), 10000);
    }

    private static void misses(Sentences s) {
        s.says(2, "and MISS by a whole from BELOW to ABOVE (-40 .. 0, 0 .. 40; 0 and 0 at first).");
        FitBench x = new FitBench();
        s.due("of(5, 2)", x.of(5, 2), 0);
        s.due("of(5, 3)", x.of(5, 3), 0);
        x.share(0, 5, 1);
        s.yes("0, 0", x.measure(5, 0, 0, 0, 0));
        s.yes("0, 40", x.measure(5, 0, 0, 0, 40));
        s.yes("-40, 0", x.measure(5, 0, 0, -40, 0));
        s.yes("-40, 40", x.measure(5, 0, 0, -40, 40));
        s.due("worst(0, 0)", x.worst(0, 0), -40);
        s.due("worst(0, 1)", x.worst(0, 1), 40);
        x.ends(0, 3, 3);
        s.due("81 wholes: chance(0, 1)", x.chance(0, 1), 81);
        for (int below : Sentences.beyond(-40, 0)) {
            s.no("below " + below, x.measure(5, 0, 0, below, 40));
        }
        for (int above : Sentences.beyond(0, 40)) {
            s.no("above " + above, x.measure(5, 0, 0, -40, above));
        }
        s.no("both above 0", x.measure(5, 0, 0, 1, 2));
        s.no("both below 0", x.measure(5, 0, 0, -2, -1));
        s.no("turned", x.measure(5, 0, 0, 40, -40));
        s.due("of(5, 2)", x.of(5, 2), -40);
        s.due("of(5, 3)", x.of(5, 3), 40);
    }

    private static void kinds(Sentences s) {
        s.says(2, "KINDS: 0 FREE;");
        s.due("free: width", width(0), 3);
        s.says(2, "1 HELD: its misses count as 0 alone");
        s.due("held: width", width(1), 0);
        held(s, 1);
        s.says(2, "(BELOW, ABOVE and BOOK stay for later);");
        FitBench x = new FitBench();
        x.measure(4, 1, 9, -2, 1);
        s.yes("book of a held one", x.book(4, -2, 5));
        s.due("of(4, 2)", x.of(4, 2), -2);
        s.due("of(4, 3)", x.of(4, 3), 1);
        s.due("of(4, 4)", x.of(4, 4), 1);
        s.no("beyond its BELOW", x.book(4, -3, 5));
        x.measure(4, 0, 9, x.of(4, 2), x.of(4, 3));
        x.share(0, 4, 1);
        s.due("free again: worst(0, 0)", x.worst(0, 0), 7);
        s.says(2, "2 SHIM: likewise, and it may be chosen.");
        s.due("shim: width", width(2), 0);
        held(s, 2);
        x.measure(4, 2, 9, -2, 1);
        s.due("no misses, and the size 9: right at once", shimOf(x, 9), 1);
        s.due("the next size above is chosen", shimOf(x, 10), 2);
        s.says(2, "A MEASURE's KIND");
        for (int kind = 0; kind < 3; kind++) {
            s.yes("kind " + kind, x.measure(7, kind, 0, 0, 0));
            s.due("of(7, 0)", x.of(7, 0), kind);
        }
        for (int kind : Sentences.beyond(0, 2)) {
            s.no("kind " + kind, x.measure(7, kind, 0, 0, 0));
        }
        s.due("of(7, 0)", x.of(7, 0), 2);
    }

    private static int width(int kind) {
        FitBench x = new FitBench();
        x.measure(0, kind, 5, -2, 1);
        x.share(0, 0, -1);
        return x.worst(0, 1) - x.worst(0, 0);
    }

    private static int shimOf(FitBench x, int right) {
        x.ends(0, right, right);
        return x.shim(0, 4, 1);
    }

    /** All that would be otherwise if the misses of the measure counted. */
    private static void held(Sentences s, int kind) {
        FitBench x = new FitBench();
        x.measure(0, kind, 5, -2, 1);
        x.book(0, -2, 9);
        x.level(0, -9, 9, 7);
        x.share(0, 0, 1);
        x.ends(0, 5, 5);
        s.due("corner(0, 0, 0)", x.corner(0, 0, 0), 0);
        s.due("corner(0, 0, 1)", x.corner(0, 0, 1), 0);
        s.due("always(0)", x.always(0), 1);
        s.due("chance(0, 0)", x.chance(0, 0), 1);
        s.due("chance(0, 1)", x.chance(0, 1), 1);
        s.due("both(0, 1, 1)", x.both(0, 1, 1), 1);
        s.due("mean(0, 0)", x.mean(0, 0), 5);
        s.due("mean(0, 1)", x.mean(0, 1), 1);
        s.due("span(0, 0, 1, 0)", x.span(0, 0, 1, 0), 5);
        s.due("span(0, 0, 1, 1)", x.span(0, 0, 1, 1), 5);
        s.due("pull(0, 0)", x.pull(0, 0), 0);
        s.due("best()", x.best(), 0);
        s.due("choice(0)", x.choice(0), -1);
        x.measure(1, 2, 0, 0, 0);
        x.share(0, 1, 1);
        s.due("shim(0, 1, 1)", x.shim(0, 1, 1), 1);
    }

    private static void measure(Sentences s) {
        s.says(2, "A MEASURE's KIND, SIZE, BELOW and ABOVE;");
        FitBench x = new FitBench();
        for (int m = 0; m < 12; m++) {
            x.measure(m, m % 3, 50 - m, -m, 2 * m);
        }
        for (int m = 0; m < 12; m++) {
            s.due("of(" + m + ", 0)", x.of(m, 0), m % 3);
            s.due("of(" + m + ", 1)", x.of(m, 1), 50 - m);
            s.due("of(" + m + ", 2)", x.of(m, 2), -m);
            s.due("of(" + m + ", 3)", x.of(m, 3), 2 * m);
        }
        x.level(3, 0, 0, 1);
        x.join(3, 1, 2);
        x.measure(3, 0, 0, 0, 0);
        s.due("its LEVELS stay", x.of(3, 5), 1);
        s.due("its FACES stay", x.of(3, 6), 1);
        s.due("another one stays", x.of(4, 1), 46);
    }

    private static void bookGoesWithMeasure(Sentences s) {
        s.says(2, "its BOOK goes: true;");
        FitBench x = new FitBench();
        x.measure(0, 0, 0, -1, 1);
        x.measure(1, 0, 0, -1, 1);
        x.book(0, 1, 9);
        x.book(1, 1, 9);
        s.yes("told the same again", x.measure(0, 0, 0, -1, 1));
        s.due("of(0, 4)", x.of(0, 4), 0);
        s.due("that of another one stays", x.of(1, 4), 1);
        x.share(0, 0, 1);
        x.ends(0, 1, 1);
        s.due("1 of 3", x.chance(0, 1), 3);
        x.book(0, 0, 1);
        s.due("nor does it come back: 1 of 3", x.chance(0, 1), 3);
    }

    private static void measureRefused(Sentences s) {
        s.says(2, "false when there is none such,");
        for (int m : Sentences.beyond(0, 11)) {
            s.no("m " + m, new FitBench().measure(m, 0, 0, 0, 0));
        }
        s.changesNothing("measure of none", x -> {
            for (int m : Sentences.beyond(0, 11)) {
                x.measure(m, 1, 7, -1, 1);
            }
        });
        s.says(2, "or something can't be.");
        FitBench one = new FitBench();
        s.no("kind", one.measure(0, 3, 0, 0, 0));
        s.no("size", one.measure(0, 0, 10001, 0, 0));
        s.no("below", one.measure(0, 0, 0, -41, 0));
        s.no("above", one.measure(0, 0, 0, 0, 41));
        s.changesNothing("refused measure", x -> {
            for (int m = 0; m < 12; m++) {
                x.measure(m, -1, 7, -1, 1);
                x.measure(m, 3, 7, -1, 1);
                x.measure(m, 1, -10001, -1, 1);
                x.measure(m, 1, 7, -41, 1);
                x.measure(m, 1, 7, 1, 1);
                x.measure(m, 1, 7, -1, -1);
                x.measure(m, 1, 7, -1, 41);
            }
        });
    }

    private static void bookNumbers(Sentences s) {
        s.says(3, "A BOOK tells how many parts of a lot miss by each of these (0 .. 9 each, not all 0);");
        FitBench x = new FitBench();
        x.measure(0, 0, 0, -1, 1);
        x.share(0, 0, 1);
        x.ends(0, 1, 1);
        s.yes("0", x.book(0, 0, 0));
        s.due("1 of 2", x.chance(0, 1), 2);
        s.yes("9", x.book(0, -1, 9));
        s.due("1 of 10", x.chance(0, 1), 10);
        s.yes("9", x.book(0, 1, 9));
        s.due("9 of 18", x.chance(0, 1), 2);
        s.no("not all 0", new FitBench().book(0, 0, 0));
        FitBench wide = new FitBench();
        wide.measure(1, 0, 0, -40, 40);
        wide.share(0, 1, 1);
        int all = 0;
        for (int miss = -40; miss <= 40; miss++) {
            all += 1 + (miss & 7);
            s.yes("each another one", wide.book(1, miss, 1 + (miss & 7)));
        }
        for (int miss = -40; miss <= 40; miss++) {
            wide.ends(0, miss, miss);
            long above = wide.chance(0, 0);
            s.due(miss + " of the widest", above * all, wide.chance(0, 1) * (1 + (miss & 7)));
        }
        wide.measure(0, 0, 0, 0, 1);
        wide.share(0, 0, 1);
        wide.ends(0, 41, 41);
        s.due("with another one: 1 of", wide.chance(0, 0), 1);
        s.due("with another one: .. all, twice", wide.chance(0, 1), 2 * all);
        s.says(3, "without one (as at first) it is 1 for each.");
        FitBench y = new FitBench();
        y.share(0, 0, 1);
        s.due("at first: 1 of 1", y.chance(0, 1), 1);
        y.measure(0, 0, 0, -40, 39);
        for (int gap = -40; gap < 40; gap++) {
            y.ends(0, gap, gap);
            s.due(gap + ": 1 of", y.chance(0, 0), 1);
            s.due(gap + ": .. 80", y.chance(0, 1), 80);
        }
        s.due("of(0, 4)", y.of(0, 4), 0);
    }

    private static void bookBegins(Sentences s) {
        s.says(3, "How many parts miss by a told miss, in the BOOK of a MEASURE");
        FitBench x = new FitBench();
        x.measure(0, 0, 0, -3, 2);
        x.share(0, 0, -1);
        for (int miss = -3; miss <= 2; miss++) {
            s.yes("book(0, " + miss + ", ..)", x.book(0, miss, miss + 4));
        }
        for (int miss = -3; miss <= 2; miss++) {
            x.ends(0, -miss, -miss);
            s.due(miss + ": of 21", 21 / x.chance(0, 1) * x.chance(0, 0), miss + 4);
        }
        s.says(3, "(one begins with 1 for each other miss): true;");
        FitBench y = new FitBench();
        y.measure(0, 0, 0, -40, 40);
        y.share(0, 0, 1);
        s.yes("the least", y.book(0, -40, 9));
        s.due("of(0, 4)", y.of(0, 4), 1);
        for (int gap = -39; gap <= 40; gap++) {
            y.ends(0, gap, gap);
            s.due(gap + ": 1 of", y.chance(0, 0), 1);
            s.due(gap + ": .. 89", y.chance(0, 1), 89);
        }
        s.yes("it goes on, and does not begin again", y.book(0, 40, 9));
        y.ends(0, -40, -40);
        s.due("9 of 97", y.chance(0, 0), 9);
        s.due("9 of 97", y.chance(0, 1), 97);
    }

    private static void bookRefused(Sentences s) {
        s.says(3, "false when there is none such,");
        for (int m : Sentences.beyond(0, 11)) {
            s.no("m " + m, new FitBench().book(m, 0, 1));
        }
        s.says(3, "the miss is not from BELOW to ABOVE,");
        FitBench x = new FitBench();
        x.measure(0, 0, 0, -3, 2);
        s.yes("BELOW", x.book(0, -3, 2));
        s.yes("ABOVE", x.book(0, 2, 2));
        for (int miss : Sentences.beyond(-3, 2)) {
            s.no("miss " + miss, x.book(0, miss, 1));
        }
        s.no("of one that misses by 0 alone", x.book(1, 1, 1));
        FitBench wide = new FitBench();
        wide.measure(0, 0, 0, -40, 40);
        for (int miss : Sentences.beyond(-40, 40)) {
            s.no("miss " + miss, wide.book(0, miss, 1));
        }
        s.due("none began", wide.of(0, 4), 0);
        s.says(3, "the number can't be,");
        for (int many : Sentences.beyond(0, 9)) {
            s.no("many " + many, wide.book(0, 0, many));
        }
        s.due("none began", wide.of(0, 4), 0);
        s.changesNothing("refused book", y -> {
            for (int m = -1; m <= 12; m++) {
                y.book(m, 0, 10);
                y.book(m, 0, -1);
                y.book(m, -4, 2);
                y.book(m, 4, 2);
            }
        });
    }

    private static void bookOfNothing(Sentences s) {
        s.says(3, "or all would be 0.");
        FitBench x = new FitBench();
        s.no("the only miss", x.book(0, 0, 0));
        s.due("none began", x.of(0, 4), 0);
        x.measure(0, 0, 0, -1, 1);
        x.share(0, 0, 1);
        x.ends(0, 0, 0);
        s.yes("-1", x.book(0, -1, 0));
        s.yes("1", x.book(0, 1, 0));
        s.no("0, the last", x.book(0, 0, 0));
        s.due("it stays: 1 of 1", x.chance(0, 0), 1);
        s.yes("0 stands for 1 already", x.book(0, 1, 0));
        s.yes("9 in its place", x.book(0, 0, 9));
        s.no("0, the last", x.book(0, 0, 0));
        s.yes("another one", x.book(0, 1, 1));
        s.yes("now it may be", x.book(0, 0, 0));
        s.due("none of 1", x.chance(0, 0), 0);
        s.no("the last again", x.book(0, 1, 0));
        x.measure(1, 1, 0, 0, 0);
        s.no("of a held one, too", x.book(1, 0, 0));
    }

    private static void tear(Sentences s) {
        s.says(4, "The BOOK goes:");
        FitBench x = new FitBench();
        x.measure(0, 0, 0, -1, 1);
        x.measure(1, 0, 0, -1, 1);
        x.share(0, 0, 1);
        x.ends(0, 1, 1);
        x.book(0, -1, 0);
        x.book(0, 0, 8);
        x.book(1, 0, 8);
        x.tear(0);
        s.due("of(0, 4)", x.of(0, 4), 0);
        s.due("that of another one stays", x.of(1, 4), 1);
        s.due("1 of 3", x.chance(0, 1), 3);
        x.book(0, 1, 2);
        s.due("a new one begins with 1: 2 of 4", x.chance(0, 1), 2);
        s.says(4, "whether there was one.");
        FitBench y = new FitBench();
        s.no("none at first", y.tear(11));
        y.book(11, 0, 1);
        s.yes("though it tells 1 for each", y.tear(11));
        s.no("no more", y.tear(11));
        y.book(11, 0, 0);
        s.no("a refused book() began none", y.tear(11));
        for (int m : Sentences.beyond(0, 11)) {
            s.no("m " + m, y.tear(m));
        }
        s.changesNothing("tear of none", z -> {
            for (int m : Sentences.beyond(0, 11)) {
                z.tear(m);
            }
            z.tear(4);
        });
    }

    private static void of(Sentences s) {
        s.says(5, "Of a MEASURE: 0 KIND, 1 SIZE, 2 BELOW, 3 ABOVE,");
        FitBench x = new FitBench();
        x.measure(11, 2, -10000, -40, 39);
        int[] want = {2, -10000, -40, 39};
        for (int what = 0; what < 4; what++) {
            s.due("of(11, " + what + ")", x.of(11, what), want[what]);
        }
        s.says(5, "4 whether it has a BOOK (1, 0),");
        s.due("none", x.of(11, 4), 0);
        x.book(11, 39, 1);
        s.due("one", x.of(11, 4), 1);
        s.says(5, "5 how many LEVELS,");
        for (int l = 0; l < 4; l++) {
            s.due("of(11, 5)", x.of(11, 5), l);
            x.level(11, 0, 0, 0);
        }
        x.level(11, 0, 0, 0);
        s.due("no more than 4", x.of(11, 5), 4);
        s.says(5, "6, 7 the FACES from and to which it leads (NONE).");
        s.due("from none", x.of(11, 6), -1);
        s.due("to none", x.of(11, 7), -1);
        x.join(11, 0, 11);
        s.due("from", x.of(11, 6), 0);
        s.due("to", x.of(11, 7), 11);
        s.says(5, "-100000 when there is none such.");
        for (int m : Sentences.beyond(0, 11)) {
            s.due("of(" + m + ", 0)", x.of(m, 0), -100000);
        }
        for (int what : Sentences.beyond(0, 7)) {
            s.due("of(11, " + what + ")", x.of(11, what), -100000);
        }
    }
}
