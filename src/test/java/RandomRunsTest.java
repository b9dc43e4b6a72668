import java.util.Random;

/** Runs of random calls, the same ones each time, on FitBench and on PlainBench side by side. */
public final class RandomRunsTest {
    /** What later calls of an object answer is free. */
    private static final int MOST_CALLS = 512;
    /** As many as lookAtAll() makes. */
    private static final int CALLS_OF_LOOK = 316;
    private static int wrong = 0;
    private static long calls = 0;

    public static void main(String[] args) {
        int runs = args.length > 0 ? Integer.parseInt(args[0]) : 6000;
        int seed = args.length > 1 ? Integer.parseInt(args[1]) : 1;
        for (int run = 0; run < runs && wrong < 20; run++) {
            new Run(new Random(seed * 1000003L + run), run).play();
        }
        System.out.println(wrong == 0 ? calls + " answers of random runs agree" : wrong + " answers do not agree");
        if (wrong != 0) {
            System.exit(1);
        }
    }

    private static final class Run {
        private final Random random;
        private final int number;
        private final FitBench fit = new FitBench();
        private final PlainBench plain = new PlainBench();
        /** Few measures with few misses, or up to all of them. */
        private final int mostMiss;
        private final int measures;
        private int made;

        Run(Random random, int number) {
            this.random = random;
            this.number = number;
            int[] misses = {1, 2, 3, 5, 8, 14, 40};
            this.mostMiss = misses[random.nextInt(misses.length)];
            this.measures = 1 + random.nextInt(mostMiss > 8 ? 3 : mostMiss > 3 ? 5 : 12);
        }

        void play() {
            begin();
            int end = random.nextInt(4) == 0 ? MOST_CALLS - CALLS_OF_LOOK : MOST_CALLS;
            while (made < end) {
                if (random.nextInt(12) == 0) {
                    lookAtSome();
                } else if (random.nextInt(3) == 0) {
                    ask();
                } else {
                    change();
                }
            }
            if (end < MOST_CALLS) {
                lookAtAll();
            }
        }

        /** A bench on which most questions have an answer. */
        private void begin() {
            for (int m = 0; m < measures; m++) {
                int k = random.nextInt(5) == 0 ? r(1, 2) : 0, s = r(-20, 20), b = -r(0, mostMiss), a = r(0, mostMiss);
                due("measure", fit.measure(m, k, s, b, a), plain.measure(m, k, s, b, a), m, k, s, b, a);
                for (int c = 0; c < 2; c++) {
                    int share = random.nextInt(3) == 0 ? r(-3, 3) : r(-1, 1);
                    due("share", fit.share(c, m, share), plain.share(c, m, share), c, m, share);
                }
                for (int l = r(0, 6); l < 3; l++) {
                    level(m);
                }
            }
            for (int c = 0; c < 2; c++) {
                int low = plain.worst(c, r(0, 2)) + r(-3, 1), high = Math.max(low, plain.worst(c, 1) + r(-3, 3));
                due("ends", fit.ends(c, low, high), plain.ends(c, low, high), c, low, high);
            }
        }

        private int r(int low, int high) {
            return low + random.nextInt(high - low + 1);
        }

        /** Mostly a number within, at times one just beyond or far away. */
        private int near(int low, int high) {
            int kind = random.nextInt(60);
            if (kind == 0) {
                return low - 1;
            }
            if (kind == 1) {
                return high + 1;
            }
            if (kind == 2) {
                return random.nextBoolean() ? Integer.MIN_VALUE : Integer.MAX_VALUE;
            }
            return r(low, high);
        }

        private int m() {
            return near(0, random.nextInt(8) == 0 ? 11 : measures - 1);
        }

        private int c() {
            return near(0, random.nextInt(9) == 0 ? 5 : 1);
        }

        private int kind() {
            return random.nextInt(3) == 0 ? near(0, 2) : 0;
        }

        private int size() {
            return random.nextInt(6) == 0 ? near(-10000, 10000) : r(-9, 9);
        }

        private int below() {
            return random.nextInt(30) == 0 ? near(-40, 0) : -r(0, mostMiss);
        }

        private int above() {
            return random.nextInt(30) == 0 ? near(0, 40) : r(0, mostMiss);
        }

        private void change() {
            switch (random.nextInt(16)) {
                case 0, 1, 2 -> {
                    int m = m(), k = kind(), s = size(), b = below(), a = above();
                    due("measure", fit.measure(m, k, s, b, a), plain.measure(m, k, s, b, a), m, k, s, b, a);
                }
                case 3, 4 -> {
                    int m = m(), miss = random.nextBoolean() ? r(-3, 3) : near(-40, 40), many = near(0, 9);
                    due("book", fit.book(m, miss, many), plain.book(m, miss, many), m, miss, many);
                }
                case 5 -> {
                    int m = m();
                    if (random.nextInt(3) == 0) {
                        due("tear", fit.tear(m), plain.tear(m), m);
                    } else {
                        due("plain", fit.plain(m), plain.plain(m), m);
                    }
                }
                case 6, 7 -> {
                    int c = c(), m = m(), s = random.nextBoolean() ? r(-1, 1) : near(-3, 3);
                    due("share", fit.share(c, m, s), plain.share(c, m, s), c, m, s);
                }
                case 8, 9 -> ends();
                case 10 -> {
                    int m = near(0, 11), f = near(0, 7), t = near(0, 7);
                    if (random.nextInt(5) == 0) {
                        f = -1;
                        t = -1;
                    }
                    due("join", fit.join(m, f, t), plain.join(m, f, t), m, f, t);
                }
                case 11, 12 -> {
                    level(m());
                }
                case 13, 14 -> {
                    int lot = near(0, 1), s = random.nextInt(9) == 0 ? near(-10000, 10000) : r(-12, 12);
                    if (random.nextInt(40) == 0) {
                        due("sweep", fit.sweep(lot), plain.sweep(lot), lot);
                    } else {
                        due("part", fit.part(lot, s), plain.part(lot, s), lot, s);
                    }
                }
                default -> {
                    int p = near(0, 2);
                    if (random.nextInt(4) != 0) {
                        due("image", fit.image(p), plain.image(p), p);
                    } else {
                        due("back", fit.back(p), plain.back(p), p);
                    }
                }
            }
        }

        private void level(int m) {
            int b = below(), a = above(), p = random.nextInt(9) == 0 ? near(0, 1000000) : r(0, 6);
            due("level", fit.level(m, b, a, p), plain.level(m, b, a, p), m, b, a, p);
        }

        /** Mostly near the gap, so that it matters. */
        private void ends() {
            int c = c();
            int about = plain.worst(c, r(0, 2));
            int low = about == -10000000 || random.nextInt(6) == 0 ? near(-100000, 100000) : about + r(-6, 6);
            int high = random.nextInt(6) == 0 ? near(-100000, 100000) : low + r(-1, 3 * mostMiss + 3);
            due("ends", fit.ends(c, low, high), plain.ends(c, low, high), c, low, high);
        }

        private void ask() {
            int c = c();
            int m = m();
            int what = near(0, 1);
            switch (random.nextInt(15)) {
                case 0 -> due("worst", fit.worst(c, what + 1), plain.worst(c, what + 1), c, what + 1);
                case 1 -> due("corner", fit.corner(c, m, what), plain.corner(c, m, what), c, m, what);
                case 2 -> due("always", fit.always(c), plain.always(c), c);
                case 3, 4 -> due("chance", fit.chance(c, what), plain.chance(c, what), c, what);
                case 5, 6 -> {
                    int d = c();
                    due("both", fit.both(c, d, what), plain.both(c, d, what), c, d, what);
                }
                case 7 -> due("mean", fit.mean(c, what), plain.mean(c, what), c, what);
                case 8 -> {
                    int whole = random.nextBoolean() ? near(1, 1000) : r(2, 12);
                    int part = whole < 1 || whole > 1000 ? 0 : near(0, random.nextBoolean() ? whole : whole / 2);
                    due("span", fit.span(c, part, whole, what), plain.span(c, part, whole, what), c, part, whole, what);
                }
                case 9 -> due("pull", fit.pull(c, m), plain.pull(c, m), c, m);
                case 10 -> due("best", fit.best(), plain.best());
                case 11 -> {
                    int low = random.nextInt(5) == 0 ? near(-30000, 30000) : r(-6, 6);
                    int high = random.nextInt(5) == 0 ? near(-30000, 30000) : low + r(-1, 6);
                    due("match", fit.match(low, high), plain.match(low, high), low, high);
                }
                case 12 -> {
                    int f = near(0, 7), t = near(0, 7);
                    due("round", fit.round(c, f, t), plain.round(c, f, t), c, f, t);
                }
                case 13 -> due("over", fit.over(), plain.over());
                default -> {
                    int step = random.nextInt(4) == 0 ? near(1, 1000) : r(1, 6);
                    for (int o = 0; o < 12; o++) {
                        due("shim", fit.shim(c, o, step), plain.shim(c, o, step), c, o, step);
                    }
                }
            }
        }

        private void lookAtAll() {
            for (int m = -1; m <= 12; m++) {
                lookAtMeasure(m);
            }
            for (int c = -1; c <= 6; c++) {
                lookAtChain(c);
            }
            for (int k = -1; k <= 24; k++) {
                due("mate", fit.mate(k), plain.mate(k), k);
            }
        }

        private void lookAtSome() {
            lookAtMeasure(r(0, measures - 1));
            if (random.nextInt(3) == 0) {
                lookAtChain(r(0, 5));
            }
            int k = r(0, 23);
            due("mate", fit.mate(k), plain.mate(k), k);
        }

        private void lookAtMeasure(int m) {
            for (int what = -1; what <= 8; what++) {
                due("of", fit.of(m, what), plain.of(m, what), m, what);
            }
            due("choice", fit.choice(m), plain.choice(m), m);
        }

        private void lookAtChain(int c) {
            for (int what = -1; what <= 15; what++) {
                due("chain", fit.chain(c, what), plain.chain(c, what), c, what);
            }
        }

        private void due(String name, boolean got, boolean want, int... with) {
            due(name, got ? 1L : 0L, want ? 1L : 0L, with);
        }

        private void due(String name, long got, long want, int... with) {
            made++;
            if (made > MOST_CALLS) {
                return;
            }
            calls++;
            StringBuilder call = new StringBuilder(name).append('(');
            for (int i = 0; i < with.length; i++) {
                call.append(i == 0 ? "" : ", ").append(with[i]);
            }
            call.append(") ").append(got);
            if (got != want) {
                wrong++;
                System.out.println("run " + number + ": " + call + ", due is " + want);
            }
        }
    }
}
