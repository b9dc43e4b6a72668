import java.util.Random;

/** Benches set up at random so that one kind of question is worth asking, set against PlainBench. */
public final class ScenesTest {
    private static final Random RANDOM = new Random(20261117L);
    private static int wrong = 0;
    private static int answers = 0;

    private static FitBench fit;
    private static PlainBench plain;

    public static void main(String[] args) {
        int scenes = args.length > 0 ? Integer.parseInt(args[0]) : 1500;
        for (int i = 0; i < scenes && wrong < 20; i++) {
            scene(i);
        }
        System.out.println(wrong == 0 ? answers + " answers of scenes agree" : wrong + " answers do not agree");
        if (wrong != 0) {
            System.exit(1);
        }
    }

    private static void scene(int i) {
        fit = new FitBench();
        plain = new PlainBench();
        careScene();
        fit = new FitBench();
        plain = new PlainBench();
        gapScene(i % 50 == 0);
        fit = new FitBench();
        plain = new PlainBench();
        shimScene();
        fit = new FitBench();
        plain = new PlainBench();
        drawingScene();
        lotScene();
    }

    private static int r(int low, int high) {
        return low + RANDOM.nextInt(high - low + 1);
    }

    private static void measures(int count, int mostMiss) {
        for (int m = 0; m < count; m++) {
            int kind = r(0, 6) == 0 ? r(1, 2) : 0, size = r(-300, 300), below = -r(0, mostMiss), above = r(0, mostMiss);
            due("measure", fit.measure(m, kind, size, below, above), plain.measure(m, kind, size, below, above));
            for (int k = r(-6, 4); k > 0; k--) {
                int miss = r(below, above), many = r(0, 2) == 0 ? 0 : r(0, 9);
                due("book", fit.book(m, miss, many), plain.book(m, miss, many));
            }
        }
    }

    private static void shares(int c, int count, int mostShare) {
        for (int m = 0; m < count; m++) {
            int share = r(0, 2) == 0 ? 0 : r(-mostShare, mostShare);
            due("share", fit.share(c, m, share), plain.share(c, m, share));
        }
    }

    private static void ends(int c, int low, int high) {
        due("ends", fit.ends(c, low, high), plain.ends(c, low, high));
    }

    private static void careScene() {
        int count = r(1, 6);
        int mostMiss = r(1, 9);
        measures(count, mostMiss);
        for (int m = 0; m < count; m++) {
            for (int l = r(-1, 4); l > 0; l--) {
                int below = -r(0, mostMiss), above = r(0, mostMiss), price = r(0, 3) == 0 ? r(0, 1000000) : r(0, 5);
                due("level", fit.level(m, below, above, price), plain.level(m, below, above, price));
            }
        }
        for (int c = r(0, 4); c < 6; c++) {
            shares(c, count, r(1, 3));
            int middle = plain.worst(c, 2);
            ends(c, middle - r(0, 5 * mostMiss), middle + r(0, 5 * mostMiss));
        }
        for (int turn = 0; turn < 4; turn++) {
            due("best", fit.best(), plain.best());
            for (int m = 0; m < 12; m++) {
                due("choice", fit.choice(m), plain.choice(m));
            }
            int c = r(0, 5);
            int middle = plain.worst(c, 2);
            ends(c, middle - r(0, 5 * mostMiss), middle + r(0, 5 * mostMiss));
        }
    }

    private static void gapScene(boolean large) {
        int count = large ? r(3, 5) : r(1, 5);
        int mostMiss = large ? r(15, 40) : r(1, 12);
        measures(count, mostMiss);
        for (int c = 0; c < 3; c++) {
            shares(c, count, large ? 1 : r(1, 3));
            int least = plain.worst(c, 0), greatest = plain.worst(c, 1);
            int low = r(least - 1, greatest + 1);
            ends(c, low, r(low, greatest + 1));
        }
        for (int c = 0; c < 3; c++) {
            for (int what = 0; what < 2; what++) {
                due("chance", fit.chance(c, what), plain.chance(c, what));
                due("mean", fit.mean(c, what), plain.mean(c, what));
                due("both", fit.both(c, (c + 1) % 3, what), plain.both(c, (c + 1) % 3, what));
                due("both", fit.both(c, c, what), plain.both(c, c, what));
                for (int k = 0; k < 4; k++) {
                    int whole = r(1, 1000), part = r(0, k == 0 ? whole : whole / 3);
                    due("span", fit.span(c, part, whole, what), plain.span(c, part, whole, what));
                }
            }
        }
    }

    private static void shimScene() {
        int count = r(1, 4);
        measures(count, r(0, 3) == 0 ? r(0, 40) : r(0, 12));
        due("measure", fit.measure(5, 2, 7, -3, 3), plain.measure(5, 2, 7, -3, 3));
        shares(0, count, 3);
        int share = r(0, 1) == 0 ? 1 : -1;
        due("share", fit.share(0, 5, share), plain.share(0, 5, share));
        int low = r(plain.worst(0, 0) - 5, plain.worst(0, 1) + 5);
        int high = low + r(0, r(0, 1) == 0 ? 4 : 60);
        if (r(0, 20) == 0) {
            low -= 1500;
        }
        ends(0, low, high);
        for (int step = 1; step < 8; step++) {
            due("shim", fit.shim(0, 5, step), plain.shim(0, 5, step));
        }
        int step = r(1, 1000);
        due("shim", fit.shim(0, 5, step), plain.shim(0, 5, step));
        for (int far : new int[] {995, 999, 1000, 1001, 1002, 1005}) {
            ends(0, plain.worst(0, 1) + far, plain.worst(0, 1) + far);
            due("shim", fit.shim(0, 5, 1), plain.shim(0, 5, 1));
            ends(0, plain.worst(0, 0) - far, plain.worst(0, 0) - far);
            due("shim", fit.shim(0, 5, 1), plain.shim(0, 5, 1));
        }
    }

    private static void drawingScene() {
        int faces = r(2, 12);
        for (int m = r(0, 9); m < 12; m++) {
            int from = r(0, faces - 1), to = r(0, faces - 1);
            due("join", fit.join(m, from, to), plain.join(m, from, to));
        }
        due("over", fit.over(), plain.over());
        for (int k = 0; k < 12; k++) {
            int from = r(0, faces - 1), to = r(0, faces - 1);
            due("round", fit.round(k % 6, from, to), plain.round(k % 6, from, to));
            for (int m = 0; m < 12; m++) {
                due("chain", fit.chain(k % 6, m), plain.chain(k % 6, m));
            }
        }
    }

    private static void lotScene() {
        int most = r(0, 3) == 0 ? 10000 : r(1, 30);
        for (int k = r(0, 50); k > 0; k--) {
            int lot = r(0, 1), size = r(-most, most);
            due("part", fit.part(lot, size), plain.part(lot, size));
        }
        for (int k = 0; k < 4; k++) {
            int low = r(-most, most), high = low + r(0, most);
            due("match", fit.match(low, high), plain.match(low, high));
            for (int a = 0; a < 24; a++) {
                due("mate", fit.mate(a), plain.mate(a));
            }
        }
    }

    private static void due(String name, boolean got, boolean want) {
        due(name, got ? 1L : 0L, want ? 1L : 0L);
    }

    private static void due(String name, long got, long want) {
        answers++;
        if (got != want) {
            wrong++;
            System.out.println("answer " + answers + ": " + name + " answered " + got + ", due is " + want);
        }
    }
}
