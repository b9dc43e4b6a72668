/** Promises 6 to 8: share, ends, chain. */
final class ChainBounds {
    private ChainBounds() {
    }

    static void all(Sentences s) {
        share(s);
        shareRefused(s);
        ends(s);
        endsRefused(s);
        chain(s);
        asked(s);
    }

    private static void share(Sentences s) {
        s.says(6, "CHAINS 0 .. 5 have for each MEASURE a SHARE (-3 .. 3; 0 at first),");
        FitBench x = new FitBench();
        for (int c = 0; c < 6; c++) {
            for (int m = 0; m < 12; m++) {
                s.due("at first: chain(" + c + ", " + m + ")", x.chain(c, m), 0);
                s.yes("share(" + c + ", " + m + ", ..)", x.share(c, m, (5 * c + m) % 7 - 3));
            }
        }
        for (int c = 0; c < 6; c++) {
            for (int m = 0; m < 12; m++) {
                s.due("chain(" + c + ", " + m + ")", x.chain(c, m), (5 * c + m) % 7 - 3);
            }
        }
        s.says(6, "A SHARE: true;");
        FitBench y = new FitBench();
        s.yes("3", y.share(5, 11, 3));
        s.yes("-3", y.share(0, 0, -3));
        s.yes("the same again", y.share(0, 0, -3));
        s.due("chain(5, 11)", y.chain(5, 11), 3);
        s.due("chain(0, 0)", y.chain(0, 0), -3);
        s.yes("0 again", y.share(0, 0, 0));
        s.due("chain(0, 0)", y.chain(0, 0), 0);
    }

    private static void shareRefused(Sentences s) {
        s.says(6, "false when there is none such,");
        FitBench x = new FitBench();
        for (int c : Sentences.beyond(0, 5)) {
            s.no("c " + c, x.share(c, 0, 1));
        }
        for (int m : Sentences.beyond(0, 11)) {
            s.no("m " + m, x.share(0, m, 1));
        }
        s.says(6, "or it can't be.");
        for (int share : Sentences.beyond(-3, 3)) {
            s.no("share " + share, x.share(0, 0, share));
        }
        s.changesNothing("refused share", y -> {
            for (int m = 0; m < 12; m++) {
                y.share(0, m, 4);
                y.share(1, m, -4);
                y.share(-1, m, 1);
                y.share(6, m, 1);
            }
            y.share(0, -1, 1);
            y.share(0, 12, 1);
        });
    }

    private static void ends(Sentences s) {
        s.says(7, "and a LOW and a HIGH end (-100000 .. 100000; 0 and 0 at first).");
        FitBench x = new FitBench();
        s.due("chain(5, 12)", x.chain(5, 12), 0);
        s.due("chain(5, 13)", x.chain(5, 13), 0);
        s.yes("widest", x.ends(5, -100000, 100000));
        s.due("chain(5, 12)", x.chain(5, 12), -100000);
        s.due("chain(5, 13)", x.chain(5, 13), 100000);
        for (int end : Sentences.beyond(-100000, 100000)) {
            s.no("low " + end, x.ends(5, end, 100000));
            s.no("high " + end, x.ends(5, -100000, end));
            s.no("both " + end, x.ends(5, end, end));
        }
        s.says(7, "LOW and HIGH of a CHAIN (LOW not above HIGH): true;");
        s.yes("LOW is HIGH", x.ends(0, 9, 9));
        s.due("chain(0, 12)", x.chain(0, 12), 9);
        s.due("chain(0, 13)", x.chain(0, 13), 9);
        s.no("LOW is above HIGH by 1", x.ends(0, 9, 8));
        s.no("LOW is far above HIGH", x.ends(0, 100000, -100000));
        s.yes("LOW is HIGH, the least", x.ends(0, -100000, -100000));
        s.yes("LOW is HIGH, the greatest", x.ends(0, 100000, 100000));
        s.due("another one stays", x.chain(5, 12), -100000);
    }

    private static void endsRefused(Sentences s) {
        s.says(7, "false when that can't be.");
        FitBench x = new FitBench();
        for (int c : Sentences.beyond(0, 5)) {
            s.no("c " + c, x.ends(c, 0, 0));
        }
        s.no("turned", x.ends(0, 1, 0));
        s.no("low", x.ends(0, -100001, 0));
        s.no("high", x.ends(0, 0, 100001));
        s.changesNothing("refused ends", y -> {
            for (int c = -1; c <= 6; c++) {
                y.ends(c, 1, 0);
                y.ends(c, -100001, 0);
                y.ends(c, 0, 100001);
            }
            y.ends(-1, 3, 4);
            y.ends(6, 3, 4);
        });
    }

    private static void chain(Sentences s) {
        s.says(8, "Of a CHAIN: 0 to 11 the SHARES, 12 LOW, 13 HIGH, 14 whether it is ASKED.");
        FitBench x = new FitBench();
        x.share(5, 0, -3);
        x.share(5, 11, 3);
        x.ends(5, -7, 8);
        int[] want = {-3, 0, 0, 0, 0, 0, 0, 0, 0, 0, 0, 3, -7, 8, 1};
        for (int what = 0; what < 15; what++) {
            s.due("chain(5, " + what + ")", x.chain(5, what), want[what]);
            s.due("chain(4, " + what + ")", x.chain(4, what), 0);
        }
        s.says(8, "-1000000 when there is none such.");
        for (int c : Sentences.beyond(0, 5)) {
            s.due("chain(" + c + ", 12)", x.chain(c, 12), -1000000);
        }
        for (int what : Sentences.beyond(0, 14)) {
            s.due("chain(5, " + what + ")", x.chain(5, what), -1000000);
        }
    }

    private static void asked(Sentences s) {
        s.says(8, "A CHAIN is ASKED if some SHARE is not 0.");
        FitBench x = new FitBench();
        for (int m = 0; m < 12; m++) {
            s.due("no share", x.chain(2, 14), 0);
            x.share(2, m, m % 2 == 0 ? 1 : -1);
            s.due("one share", x.chain(2, 14), 1);
            x.share(2, m, 0);
        }
        x.ends(2, 1, 2);
        s.due("ends alone do not ask", x.chain(2, 14), 0);
        x.measure(0, 1, 0, 0, 0);
        x.share(2, 0, 1);
        s.due("a held one asks", x.chain(2, 14), 1);
        x.share(2, 1, -1);
        s.due("1 and -1", x.chain(2, 14), 1);
    }
}
