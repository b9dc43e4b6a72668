/** Promises 20 to 23: level, plain, best, choice. */
final class CareBounds {
    private CareBounds() {
    }

    static void all(Sentences s) {
        levels(s);
        levelRefused(s);
        levelOfOthers(s);
        plain(s);
        choices(s);
        good(s);
        best(s);
        bestNone(s);
        choice(s);
        choiceOfSeveral(s);
        choiceOfNone(s);
    }

    private static void levels(Sentences s) {
        s.says(20, "III. CARE: a MEASURE may have up to 4 LEVELS, each with BELOW, ABOVE, and a price (0 .. 1000000).");
        FitBench x = new FitBench();
        s.due("the widest, for nothing", x.level(11, -40, 40, 0), 1);
        s.due("the narrowest, the dearest", x.level(11, 0, 0, 1000000), 2);
        s.due("BELOW alone", x.level(11, -40, 0, 5), 3);
        s.due("ABOVE alone", x.level(11, 0, 40, 6), 4);
        s.due("no fifth", x.level(11, 0, 0, 7), -1);
        x.share(0, 11, 1);
        int[][] ends = {{-40, 40, 0}, {0, 0, 1000000}, {-40, 0, 5}, {0, 40, 6}, {-40, 39, 5}, {-39, 40, 6},
            {-39, 39, 1000000}};
        for (int[] each : ends) {
            x.ends(0, each[0], each[1]);
            s.due("best() by " + each[0] + " .. " + each[1], x.best(), each[2]);
        }
        s.says(20, "A LEVEL more of a MEASURE: how many;");
        FitBench y = new FitBench();
        for (int l = 1; l <= 4; l++) {
            s.due("level " + l + " of 0", y.level(0, 0, 0, 0), l);
            s.due("of(0, 5)", y.of(0, 5), l);
            s.due("level " + l + " of 5", y.level(5, 0, 0, 0), l);
        }
        s.due("a held one may have some", held(1).level(0, 0, 0, 0), 1);
        s.due("a shim may have some", held(2).level(0, 0, 0, 0), 1);
    }

    private static FitBench held(int kind) {
        FitBench x = new FitBench();
        x.measure(0, kind, 0, 0, 0);
        return x;
    }

    private static void levelRefused(Sentences s) {
        s.says(20, "NONE: no such MEASURE,");
        FitBench x = new FitBench();
        for (int m : Sentences.beyond(0, 11)) {
            s.due("m " + m, x.level(m, 0, 0, 0), -1);
        }
        s.says(20, "it has 4,");
        for (int l = 0; l < 4; l++) {
            x.level(0, 0, 0, l);
        }
        s.due("the fifth", x.level(0, 0, 0, 0), -1);
        s.due("of(0, 5)", x.of(0, 5), 4);
        s.due("of another one", x.level(1, 0, 0, 0), 1);
        s.says(20, "or something can't be.");
        for (int below : Sentences.beyond(-40, 0)) {
            s.due("below " + below, x.level(2, below, 40, 0), -1);
        }
        for (int above : Sentences.beyond(0, 40)) {
            s.due("above " + above, x.level(2, -40, above, 0), -1);
        }
        s.due("turned", x.level(2, 40, -40, 0), -1);
        for (int price : Sentences.beyond(0, 1000000)) {
            s.due("price " + price, x.level(2, 0, 0, price), -1);
        }
        s.due("of(2, 5)", x.of(2, 5), 0);
        s.changesNothing("refused level", y -> {
            for (int m = -1; m <= 12; m++) {
                y.level(m, -41, 0, 0);
                y.level(m, 0, 41, 0);
                y.level(m, 1, 1, 0);
                y.level(m, -1, -1, 0);
                y.level(m, 0, 0, -1);
                y.level(m, 0, 0, 1000001);
            }
        });
    }

    private static void levelOfOthers(Sentences s) {
        s.says(20, "8 others have some,");
        FitBench x = new FitBench();
        for (int m = 0; m < 8; m++) {
            x.measure(m, m % 3, 0, 0, 0);
            s.due("measure " + m + ", " + m + " others", x.level(m, 0, 0, 0), 1);
        }
        for (int m = 8; m < 12; m++) {
            s.due("measure " + m + ", 8 others", x.level(m, 0, 0, 0), -1);
            s.due("of(" + m + ", 5)", x.of(m, 5), 0);
        }
        for (int m = 0; m < 8; m++) {
            s.due("measure " + m + " has one, and 7 others", x.level(m, 0, 0, 0), 2);
        }
        x.plain(4);
        s.due("7 others again", x.level(11, 0, 0, 0), 1);
        s.due("8 others again", x.level(4, 0, 0, 0), -1);
    }

    private static void plain(Sentences s) {
        s.says(21, "All LEVELS of a MEASURE go: how many there were;");
        FitBench x = new FitBench();
        s.due("none", x.plain(0), 0);
        for (int l = 1; l <= 4; l++) {
            for (int k = 0; k < l; k++) {
                x.level(0, 0, 0, 10 * l + k);
                x.level(1, 0, 0, 0);
            }
            s.due("best()", x.best(), 10 * l);
            s.due("choice(0), numbered from 0 on again", x.choice(0), 0);
            s.due(l + " of them", x.plain(0), l);
            s.due("of(0, 5)", x.of(0, 5), 0);
        }
        s.due("no more", x.plain(0), 0);
        s.due("those of another one stay", x.of(1, 5), 4);
        x.measure(0, 0, 0, -3, 3);
        x.share(0, 0, 1);
        x.ends(0, -3, 3);
        s.due("its own misses count again", x.best(), 0);
        x.ends(0, -2, 3);
        s.due("its own misses count again", x.best(), -1);
        s.says(21, "NONE when there is none such.");
        for (int m : Sentences.beyond(0, 11)) {
            s.due("m " + m, x.plain(m), -1);
        }
        s.changesNothing("plain of none", y -> {
            for (int m : Sentences.beyond(0, 11)) {
                y.plain(m);
            }
            y.plain(0);
        });
    }

    private static void choices(Sentences s) {
        s.says(22, "A CHOICE: a LEVEL for each MEASURE that is FREE and has some");
        FitBench x = new FitBench();
        x.level(0, 0, 0, 1);
        x.level(1, 0, 0, 20);
        x.level(2, 0, 0, 300);
        x.measure(1, 1, 0, 0, 0);
        x.measure(2, 2, 0, 0, 0);
        s.due("only the FREE one costs", x.best(), 1);
        x.measure(1, 0, 0, 0, 0);
        x.measure(2, 0, 0, 0, 0);
        s.due("all cost, with a SHARE or without", x.best(), 321);
        s.says(23, "(numbered from 0 on, as they were told);");
        FitBench y = new FitBench();
        int[] prices = {9, 7, 5, 3};
        for (int l = 0; l < 4; l++) {
            y.level(6, 0, 0, prices[l]);
            s.due("best()", y.best(), prices[l]);
            s.due("choice(6)", y.choice(6), l);
        }
        s.says(22, "its BELOW and ABOVE take the place of its own ones then.");
        FitBench z = new FitBench();
        z.measure(0, 0, 10, -1, 1);
        z.share(0, 0, -1);
        z.level(0, -3, 2, 1);
        z.ends(0, -12, -7);
        s.due("wider than its own", z.best(), 1);
        z.ends(0, -11, -7);
        s.due("ABOVE is 2", z.best(), -1);
        z.ends(0, -12, -8);
        s.due("BELOW is -3", z.best(), -1);
        s.due("of(0, 2) stays", z.of(0, 2), -1);
        s.due("of(0, 3) stays", z.of(0, 3), 1);
        s.due("worst(0, 0) goes by its own", z.worst(0, 0), -11);
    }

    private static void good(Sentences s) {
        s.says(22, "It is good, if by it each CHAIN that is ASKED is always right.");
        FitBench x = new FitBench();
        x.measure(0, 0, 0, -9, 9);
        x.level(0, -4, 4, 1);
        x.level(0, -3, 4, 2);
        x.level(0, -3, 3, 3);
        x.share(0, 0, 1);
        x.share(5, 0, 1);
        x.ends(0, -4, 4);
        x.ends(5, -4, 4);
        s.due("both just right", x.best(), 1);
        x.ends(0, -3, 4);
        s.due("the first is narrower", x.best(), 2);
        x.ends(5, -4, 3);
        s.due("the last is narrower, too", x.best(), 3);
        x.ends(5, -4, 2);
        s.due("too narrow", x.best(), -1);
        x.share(5, 0, 0);
        s.due("the last is not ASKED", x.best(), 2);
        x.ends(5, 1, 1);
        s.due("though it is wrong", x.best(), 2);
        x.share(5, 11, 1);
        s.due("ASKED, and no level could help", x.best(), -1);
        x.measure(11, 0, 1, 0, 0);
        s.due("ASKED, and right", x.best(), 2);
        x.measure(11, 0, 1, 0, 1);
        s.due("ASKED, and another one misses", x.best(), -1);
        x.book(11, 1, 0);
        s.due("booked as 0 parts, and still a miss", x.best(), -1);
    }

    private static void best(Sentences s) {
        s.says(22, "The least price of a good CHOICE;");
        FitBench x = new FitBench();
        s.due("nothing to choose", x.best(), 0);
        for (int m = 4; m < 12; m++) {
            x.level(m, 0, 0, 1000000);
        }
        s.due("as dear as can be", x.best(), 8000000);
        for (int m = 4; m < 12; m++) {
            x.level(m, -1, 1, 999999);
        }
        s.due("8 cheaper", x.best(), 7999992);
        for (int m = 4; m < 12; m++) {
            x.share(0, m, m % 2 == 0 ? 1 : -1);
        }
        for (int wrong = 0; wrong <= 8; wrong++) {
            x.ends(0, -wrong, wrong);
            s.due("within " + wrong, x.best(), 8000000 - wrong);
        }
        FitBench dear = new FitBench();
        dear.share(0, 0, 1);
        dear.share(0, 1, 1);
        dear.ends(0, -3, 3);
        int[][] prices = {{50, 30, 10, 1}, {60, 45, 19, 2}};
        for (int m = 0; m < 2; m++) {
            for (int l = 0; l < 4; l++) {
                dear.level(m, -l, l, prices[m][l]);
            }
        }
        // Sums of 3: 50 + 2, 30 + 19, 10 + 45, 1 + 60.
        s.due("no cheap one alone", dear.best(), 49);
        FitBench late = new FitBench();
        late.level(0, 0, 0, 3);
        late.level(0, 0, 0, 2);
        late.level(1, 0, 0, 0);
        late.level(1, 0, 0, 10);
        s.due("a later one of the first, the first one of the other", late.best(), 2);
    }

    private static void bestNone(Sentences s) {
        s.says(22, "NONE: there is none.");
        FitBench x = new FitBench();
        x.share(0, 0, 1);
        x.ends(0, 1, 1);
        s.due("no LEVELS, and wrong", x.best(), -1);
        x.level(0, 0, 0, 0);
        s.due("a LEVEL does not help", x.best(), -1);
        x.measure(0, 0, 1, -40, 40);
        s.due("now it does", x.best(), 0);
        x.level(1, -1, 0, 0);
        x.share(0, 1, 1);
        s.due("the other's only one is wrong", x.best(), -1);
        x.level(1, 0, 0, 1000000);
        s.due("one that is right", x.best(), 1000000);
        FitBench far = new FitBench();
        for (int m = 0; m < 12; m++) {
            far.measure(m, 0, 10000, -40, 40);
            for (int c = 0; c < 6; c++) {
                far.share(c, m, c % 2 == 0 ? 3 : -3);
            }
        }
        for (int m = 0; m < 8; m++) {
            far.level(m, -40, 40, 1);
        }
        s.due("all as far as can be", far.best(), -1);
    }

    private static void choice(Sentences s) {
        s.says(23, "The LEVEL of a MEASURE in the first good CHOICE with the price of the latest best() that told one");
        FitBench x = new FitBench();
        x.level(0, -1, 1, 5);
        x.level(0, 0, 0, 6);
        s.due("ahead of best()", x.choice(0), -1);
        x.best();
        s.due("the cheap one", x.choice(0), 0);
        x.share(0, 0, 1);
        s.due("as it was, ahead of the next best()", x.choice(0), 0);
        x.best();
        s.due("the good one", x.choice(0), 1);
        x.ends(0, 7, 7);
        s.due("best()", x.best(), -1);
        s.due("of the latest that told one", x.choice(0), 1);
        x.share(0, 0, 0);
        x.best();
        s.due("of the next that told one", x.choice(0), 0);
    }

    private static void choiceOfSeveral(Sentences s) {
        s.says(23, "(of several the one with the lower LEVEL of the first MEASURE in which they differ);");
        FitBench x = new FitBench();
        for (int m = 10; m < 12; m++) {
            x.share(0, m, 1);
            x.level(m, 0, 0, 3);
            x.level(m, -1, 1, 2);
            x.level(m, 0, 0, 3);
            x.level(m, -1, 1, 2);
        }
        x.ends(0, -1, 1);
        s.due("best()", x.best(), 5);
        s.due("choice(10): 0, 1 ahead of 1, 0", x.choice(10), 0);
        s.due("choice(11): 1 ahead of 3", x.choice(11), 1);
        x.ends(0, 0, 0);
        s.due("best()", x.best(), 6);
        s.due("choice(10): 0 ahead of 2", x.choice(10), 0);
        s.due("choice(11): 0 ahead of 2", x.choice(11), 0);
        x.ends(0, -2, 2);
        s.due("best()", x.best(), 4);
        s.due("choice(10): 1 ahead of 3", x.choice(10), 1);
        s.due("choice(11): 1 ahead of 3", x.choice(11), 1);
        FitBench same = new FitBench();
        for (int m = 0; m < 8; m++) {
            for (int l = 0; l < 4; l++) {
                same.level(m, 0, 0, 0);
            }
        }
        s.due("best()", same.best(), 0);
        for (int m = 0; m < 8; m++) {
            s.due("all cost nothing: choice(" + m + ")", same.choice(m), 0);
        }
    }

    private static void choiceOfNone(Sentences s) {
        s.says(23, "NONE of one without,");
        FitBench x = new FitBench();
        x.level(0, 0, 0, 1);
        x.level(1, 0, 0, 1);
        x.best();
        s.due("one with LEVELS", x.choice(1), 0);
        s.due("one without LEVELS", x.choice(2), -1);
        x.measure(0, 1, 0, 0, 0);
        x.measure(1, 2, 0, 0, 0);
        x.best();
        s.due("a held one", x.choice(0), -1);
        s.due("a shim", x.choice(1), -1);
        x.measure(0, 0, 0, 0, 0);
        x.best();
        s.due("FREE again", x.choice(0), 0);
        x.plain(0);
        x.best();
        s.due("without LEVELS now", x.choice(0), -1);
        for (int m : Sentences.beyond(0, 11)) {
            s.due("m " + m, x.choice(m), -1);
        }
        s.says(23, "and ahead of any.");
        FitBench y = new FitBench();
        y.level(0, 0, 0, 1);
        s.due("ahead of best()", y.choice(0), -1);
        y.share(0, 0, 1);
        y.ends(0, 1, 1);
        y.best();
        s.due("behind a best() that told none", y.choice(0), -1);
    }
}
