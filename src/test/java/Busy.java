/** A bench with something of everything on it, all chains right, and a look at all that can be seen of one. */
final class Busy {
    private Busy() {
    }

    /** 103 calls. */
    static FitBench bench() {
        FitBench x = new FitBench();
        for (int m = 0; m < 12; m++) {
            x.measure(m, m < 9 ? 0 : m % 3, 100 * m - 300, -(m % 3) - 1, m % 4);
        }
        for (int m = 0; m < 4; m++) {
            x.book(m, 0, m + 3);
            x.book(m, -1, 0);
        }
        for (int m = 0; m < 12; m++) {
            x.share(0, m, m < 4 ? m - 2 : 0);
            x.share(1, m, m % 4 == 0 ? 1 : 0);
        }
        x.share(2, 11, 1);
        x.share(2, 3, 2);
        x.ends(0, 798, 807);
        x.ends(1, 294, 301);
        x.ends(2, 700, 900);
        x.ends(5, -3, 4);
        for (int m = 0; m < 8; m++) {
            x.join(m, m, m + 1);
        }
        x.join(8, 2, 0);
        for (int m = 4; m < 9; m++) {
            x.level(m, -m + 3, 1, 10 * m);
            x.level(m, 0, m - 4, 10 * m + 1);
        }
        for (int k = 0; k < 6; k++) {
            x.part(0, 10 * k);
            x.part(1, 60 - 9 * k);
        }
        x.match(-3, 6);
        x.best();
        x.image(1);
        return x;
    }

    /** 274 calls; the bench is not the same behind it. */
    static String look(FitBench x) {
        StringBuilder seen = new StringBuilder();
        for (int m = 0; m < 12; m++) {
            for (int what = 0; what < 8; what++) {
                seen.append(x.of(m, what)).append(' ');
            }
            seen.append(x.choice(m)).append(' ');
        }
        for (int c = 0; c < 6; c++) {
            for (int what = 0; what < 15; what++) {
                seen.append(x.chain(c, what)).append(' ');
            }
            seen.append(x.chance(c, 0)).append('/').append(x.chance(c, 1)).append(' ');
            seen.append(x.mean(c, 0)).append('/').append(x.mean(c, 1)).append(' ');
        }
        for (int k = 0; k < 24; k++) {
            seen.append(x.mate(k)).append(' ');
        }
        seen.append(x.over()).append(' ').append(x.best()).append(' ');
        x.ends(0, 800, 801);
        seen.append(x.chance(0, 0)).append('/').append(x.chance(0, 1)).append(' ');
        x.ends(2, 800, 802);
        seen.append(x.chance(2, 0)).append('/').append(x.chance(2, 1)).append(' ');
        seen.append(x.match(0, 5)).append(' ').append(x.match(-30000, 30000)).append(' ');
        seen.append(x.sweep(0)).append(' ').append(x.sweep(1)).append(' ');
        for (int place = 0; place < 3; place++) {
            seen.append(x.back(place)).append(x.of(3, 1)).append(x.chain(0, 3)).append(' ');
        }
        return seen.toString();
    }
}
