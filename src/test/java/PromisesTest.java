import java.io.IOException;
import java.nio.file.Files;
import java.nio.file.Path;
import java.util.TreeMap;
import java.util.regex.Matcher;
import java.util.regex.Pattern;

/**
 * Each promise of the document by its number and name, with answers worked out
 * by hand. Run it from the project's folder.
 */
public final class PromisesTest {
    private static final int LEAST = Integer.MIN_VALUE;
    private static final int MOST = Integer.MAX_VALUE;
    private static final Path DOCUMENT = Path.of("../shared/DOC.md");
    private static final int PROMISES = 30;
    private static final TreeMap<Integer, String> names = new TreeMap<>();
    private static final int[] answers = new int[PROMISES + 1];
    private static int wrong = 0;

    public static void main(String[] args) throws IOException {
        readNames();
        promise(1, "A new object", PromisesTest::newObject);
        promise(2, "measure", PromisesTest::measure);
        promise(3, "book", PromisesTest::book);
        promise(4, "tear", PromisesTest::tear);
        promise(5, "of", PromisesTest::of);
        promise(6, "share", PromisesTest::share);
        promise(7, "ends", PromisesTest::ends);
        promise(8, "chain", PromisesTest::chain);
        promise(9, "join", PromisesTest::join);
        promise(10, "round", PromisesTest::round);
        promise(11, "over", PromisesTest::over);
        promise(12, "worst", PromisesTest::worst);
        promise(13, "corner", PromisesTest::corner);
        promise(14, "always", PromisesTest::always);
        promise(15, "chance", PromisesTest::chance, PromisesTest::chanceEdges);
        promise(16, "both", PromisesTest::both, PromisesTest::bothSpent);
        promise(17, "mean", PromisesTest::mean);
        promise(18, "span", PromisesTest::span, PromisesTest::spanEdges);
        promise(19, "pull", PromisesTest::pull);
        promise(20, "level", PromisesTest::level);
        promise(21, "plain", PromisesTest::plain);
        promise(22, "best", PromisesTest::best, PromisesTest::bestOverChains);
        promise(23, "choice", PromisesTest::choice, PromisesTest::choiceOverChains);
        promise(24, "part", PromisesTest::part);
        promise(25, "sweep", PromisesTest::sweep);
        promise(26, "match", PromisesTest::match);
        promise(27, "mate", PromisesTest::mate);
        promise(28, "shim", PromisesTest::shim, PromisesTest::shimLimits);
        promise(29, "image", PromisesTest::image);
        promise(30, "back", PromisesTest::back);
        tell();
        if (wrong != 0) {
            System.exit(1);
        }
    }

    private static void readNames() throws IOException {
        Matcher headings = Pattern.compile("(?m)^## Promise (\\d+): (.*)$").matcher(Files.readString(DOCUMENT));
        while (headings.find()) {
            names.put(Integer.parseInt(headings.group(1)), headings.group(2).trim());
        }
        if (names.size() != PROMISES || names.firstKey() != 1 || names.lastKey() != PROMISES) {
            fault("the document has the promises " + names);
        }
    }

    /** Runs the tests of one promise, whose answers must be that one's alone. */
    private static void promise(int number, String name, Runnable... tests) {
        if (!name.equals(names.get(number))) {
            fault("promise " + number + " is " + names.get(number) + " in the document, not " + name);
        }
        int elsewhere = total() - answers[number];
        for (Runnable test : tests) {
            test.run();
        }
        if (answers[number] == 0 || total() - answers[number] != elsewhere) {
            fault("promise " + number + ": " + name + " has no test, or it asks for another one's answers");
        }
        names.remove(number);
    }

    private static int total() {
        int sum = 0;
        for (int count : answers) {
            sum += count;
        }
        return sum;
    }

    private static void tell() {
        if (!names.isEmpty()) {
            fault("no test names the promises " + names);
        }
        System.out.println(wrong == 0 ? total() + " answers of " + PROMISES + " promises are as promised"
                : wrong + " answers are not as promised");
    }

    private static void fault(String what) {
        wrong++;
        System.out.println(what);
    }

    private static void due(int promise, String call, long got, long want) {
        answers[promise]++;
        if (got != want) {
            fault("promise " + promise + ": " + call + " answered " + got + ", due is " + want);
        }
    }

    private static void yes(int promise, String call, boolean got) {
        due(promise, call, got ? 1 : 0, 1);
    }

    private static void no(int promise, String call, boolean got) {
        due(promise, call, got ? 1 : 0, 0);
    }

    /** A bench whose measures told by below, above, below, above .. are free and of the size 0. */
    private static FitBench bench(int... misses) {
        FitBench x = new FitBench();
        for (int m = 0; m < misses.length / 2; m++) {
            x.measure(m, 0, 0, misses[2 * m], misses[2 * m + 1]);
        }
        return x;
    }

    private static void shares(FitBench x, int c, int... shares) {
        for (int m = 0; m < shares.length; m++) {
            x.share(c, m, shares[m]);
        }
    }

    private static void newObject() {
        FitBench x = new FitBench();
        due(1, "NONE", FitBench.NONE, -1);
        for (int m = 0; m < 12; m++) {
            for (int what = 0; what < 8; what++) {
                due(1, "of", x.of(m, what), what < 6 ? 0 : -1);
            }
            due(1, "choice", x.choice(m), -1);
        }
        for (int c = 0; c < 6; c++) {
            for (int what = 0; what < 15; what++) {
                due(1, "chain", x.chain(c, what), 0);
            }
            due(1, "always", x.always(c), 1);
        }
        for (int k = 0; k < 24; k++) {
            due(1, "mate", x.mate(k), -1);
        }
        for (int place = 0; place < 3; place++) {
            no(1, "back", x.back(place));
        }
        due(1, "over", x.over(), 0);
        due(1, "best", x.best(), 0);
        due(1, "sweep(0)", x.sweep(0), 0);
        due(1, "sweep(1)", x.sweep(1), 0);
    }

    private static void measure() {
        FitBench x = new FitBench();
        yes(2, "least of all", x.measure(0, 0, -10000, -40, 0));
        yes(2, "most of all", x.measure(11, 2, 10000, 0, 40));
        due(2, "of(11, 0)", x.of(11, 0), 2);
        due(2, "of(11, 1)", x.of(11, 1), 10000);
        due(2, "of(11, 3)", x.of(11, 3), 40);
        no(2, "m -1", x.measure(-1, 0, 0, 0, 0));
        no(2, "m 12", x.measure(12, 0, 0, 0, 0));
        no(2, "m far", x.measure(LEAST, 0, 0, 0, 0));
        no(2, "kind -1", x.measure(0, -1, 0, 0, 0));
        no(2, "kind 3", x.measure(0, 3, 0, 0, 0));
        no(2, "size low", x.measure(0, 0, -10001, 0, 0));
        no(2, "size high", x.measure(0, 0, 10001, 0, 0));
        no(2, "below -41", x.measure(0, 0, 0, -41, 0));
        no(2, "below 1", x.measure(0, 0, 0, 1, 1));
        no(2, "above -1", x.measure(0, 0, 0, -1, -1));
        no(2, "above 41", x.measure(0, 0, 0, 0, 41));
        no(2, "above far", x.measure(0, 0, 0, 0, MOST));
        due(2, "refused: size stays", x.of(0, 1), -10000);
        due(2, "refused: below stays", x.of(0, 2), -40);
        x.book(0, -3, 5);
        x.level(0, -1, 1, 7);
        x.join(0, 3, 4);
        no(2, "refused", x.measure(0, 0, 0, 0, 41));
        due(2, "refused: the book stays", x.of(0, 4), 1);
        yes(2, "again", x.measure(0, 0, 5, -1, 1));
        due(2, "its book goes", x.of(0, 4), 0);
        due(2, "its levels stay", x.of(0, 5), 1);
        due(2, "its faces stay", x.of(0, 7), 4);
    }

    private static void book() {
        FitBench x = bench(-2, 1);
        x.share(0, 0, 1);
        x.ends(0, 1, 1);
        yes(3, "begins", x.book(0, 1, 9));
        due(3, "of(0, 4)", x.of(0, 4), 1);
        due(3, "1 for each other: 9 of", x.chance(0, 0), 3);
        due(3, ".. 12", x.chance(0, 1), 4);
        yes(3, "goes on", x.book(0, -2, 0));
        due(3, "9 of", x.chance(0, 0), 9);
        due(3, ".. 11", x.chance(0, 1), 11);
        no(3, "miss below", x.book(0, -3, 1));
        no(3, "miss above", x.book(0, 2, 1));
        no(3, "miss far", x.book(0, MOST, 1));
        no(3, "many -1", x.book(0, 0, -1));
        no(3, "many 10", x.book(0, 0, 10));
        no(3, "m -1", x.book(-1, 0, 1));
        no(3, "m 12", x.book(12, 0, 1));
        due(3, "as it was: ..", x.chance(0, 1), 11);
        yes(3, "-1: 0", x.book(0, -1, 0));
        yes(3, "0: 0", x.book(0, 0, 0));
        no(3, "all would be 0", x.book(0, 1, 0));
        due(3, "9 of 9", x.chance(0, 0), 1);
        yes(3, "0: 2", x.book(0, 0, 2));
        yes(3, "now it may be", x.book(0, 1, 0));
        due(3, "0 of 2", x.chance(0, 0), 0);
        due(3, "lowest terms of 0", x.chance(0, 1), 1);
        no(3, "the only miss", x.book(1, 0, 0));
        due(3, "refused: no book begins", x.of(1, 4), 0);
        yes(3, "the only miss, 5 parts", x.book(1, 0, 5));
        FitBench held = new FitBench();
        held.measure(2, 1, 0, -3, 3);
        yes(3, "of a held one", held.book(2, -3, 0));
        no(3, "of a held one, beyond", held.book(2, -4, 0));
        FitBench wide = bench(-40, 40);
        yes(3, "least miss", wide.book(0, -40, 0));
        yes(3, "greatest miss", wide.book(0, 40, 0));
        wide.share(0, 0, 1);
        wide.ends(0, -39, 39);
        due(3, "none at the ends", wide.chance(0, 0), 1);
    }

    private static void tear() {
        FitBench x = bench(-1, 1);
        x.share(0, 0, 1);
        x.ends(0, 1, 1);
        no(4, "none yet", x.tear(0));
        x.book(0, 1, 4);
        due(4, "with it", x.chance(0, 0), 2);
        yes(4, "there was one", x.tear(0));
        due(4, "of(0, 4)", x.of(0, 4), 0);
        due(4, "without it", x.chance(0, 1), 3);
        no(4, "no more", x.tear(0));
        no(4, "m -1", x.tear(-1));
        no(4, "m 12", x.tear(12));
        x.book(0, 0, 2);
        due(4, "a new one begins with 1: 1 of", x.chance(0, 0), 1);
        due(4, ".. 4", x.chance(0, 1), 4);
    }

    private static void of() {
        FitBench x = new FitBench();
        x.measure(3, 1, -77, -12, 34);
        x.level(3, 0, 0, 1);
        x.level(3, 0, 0, 1);
        x.join(3, 11, 2);
        int[] want = {1, -77, -12, 34, 0, 2, 11, 2};
        for (int what = 0; what < 8; what++) {
            due(5, "of(3, " + what + ")", x.of(3, what), want[what]);
        }
        x.book(3, 34, 2);
        due(5, "of(3, 4)", x.of(3, 4), 1);
        due(5, "what -1", x.of(3, -1), -100000);
        due(5, "what 8", x.of(3, 8), -100000);
        due(5, "m -1", x.of(-1, 0), -100000);
        due(5, "m 12", x.of(12, 0), -100000);
        due(5, "far", x.of(LEAST, MOST), -100000);
    }

    private static void share() {
        FitBench x = new FitBench();
        yes(6, "least", x.share(0, 0, -3));
        yes(6, "most", x.share(5, 11, 3));
        due(6, "chain(0, 0)", x.chain(0, 0), -3);
        due(6, "chain(5, 11)", x.chain(5, 11), 3);
        no(6, "-4", x.share(0, 0, -4));
        no(6, "4", x.share(0, 0, 4));
        no(6, "c -1", x.share(-1, 0, 0));
        no(6, "c 6", x.share(6, 0, 0));
        no(6, "m -1", x.share(0, -1, 0));
        no(6, "m 12", x.share(0, 12, 0));
        due(6, "stays", x.chain(0, 0), -3);
        yes(6, "none", x.share(0, 0, 0));
        due(6, "asked no more", x.chain(0, 14), 0);
    }

    private static void ends() {
        FitBench x = new FitBench();
        yes(7, "widest", x.ends(0, -100000, 100000));
        due(7, "low", x.chain(0, 12), -100000);
        due(7, "high", x.chain(0, 13), 100000);
        yes(7, "the same", x.ends(5, 7, 7));
        due(7, "high", x.chain(5, 13), 7);
        no(7, "turned", x.ends(0, 1, 0));
        no(7, "low too low", x.ends(0, -100001, 0));
        no(7, "high too high", x.ends(0, 0, 100001));
        no(7, "low too high", x.ends(0, 100001, 100002));
        no(7, "high too low", x.ends(0, -100003, -100002));
        no(7, "c -1", x.ends(-1, 0, 0));
        no(7, "c 6", x.ends(6, 0, 0));
        due(7, "stays", x.chain(0, 12), -100000);
    }

    private static void chain() {
        FitBench x = new FitBench();
        for (int m = 0; m < 12; m++) {
            x.share(4, m, m % 7 - 3);
        }
        x.ends(4, -5, 6);
        for (int m = 0; m < 12; m++) {
            due(8, "share of " + m, x.chain(4, m), m % 7 - 3);
        }
        due(8, "low", x.chain(4, 12), -5);
        due(8, "high", x.chain(4, 13), 6);
        due(8, "asked", x.chain(4, 14), 1);
        due(8, "not asked", x.chain(3, 14), 0);
        x.share(3, 11, -1);
        due(8, "asked by the last alone", x.chain(3, 14), 1);
        due(8, "what -1", x.chain(4, -1), -1000000);
        due(8, "what 15", x.chain(4, 15), -1000000);
        due(8, "c -1", x.chain(-1, 0), -1000000);
        due(8, "c 6", x.chain(6, 0), -1000000);
    }

    private static void join() {
        FitBench x = new FitBench();
        yes(9, "join", x.join(0, 0, 11));
        due(9, "from", x.of(0, 6), 0);
        due(9, "to", x.of(0, 7), 11);
        no(9, "the same", x.join(0, 3, 3));
        no(9, "from none", x.join(0, -1, 3));
        no(9, "to none", x.join(0, 3, -1));
        no(9, "from 12", x.join(0, 12, 3));
        no(9, "to 12", x.join(0, 3, 12));
        no(9, "from -2, to -2", x.join(0, -2, -2));
        no(9, "m -1", x.join(-1, 0, 1));
        no(9, "m 12", x.join(12, 0, 1));
        no(9, "m 12, no more", x.join(12, -1, -1));
        due(9, "stays", x.of(0, 7), 11);
        yes(9, "no more", x.join(0, -1, -1));
        due(9, "from", x.of(0, 6), -1);
        due(9, "to", x.of(0, 7), -1);
        yes(9, "no more again", x.join(0, -1, -1));
    }

    private static void round() {
        FitBench x = new FitBench();
        x.join(0, 0, 1);
        x.join(1, 2, 1);
        x.join(2, 2, 3);
        x.join(3, 1, 5);
        x.share(0, 7, 2);
        due(10, "way of three", x.round(0, 0, 3), 3);
        int[] want = {1, -1, 1, 0, 0, 0, 0, 0, 0, 0, 0, 0};
        for (int m = 0; m < 12; m++) {
            due(10, "share of " + m, x.chain(0, m), want[m]);
        }
        due(10, "back again", x.round(0, 3, 0), 3);
        due(10, "turned", x.chain(0, 0), -1);
        due(10, "turned", x.chain(0, 1), 1);
        due(10, "turned", x.chain(0, 2), -1);
        due(10, "no way", x.round(0, 0, 4), 0);
        due(10, "the chain stays", x.chain(0, 1), 1);
        x.join(11, 3, 2);
        due(10, "two side by side", x.round(0, 0, 3), -2);
        due(10, "the chain stays", x.chain(0, 0), -1);
        due(10, "a way that does not meet them", x.round(0, 5, 0), 2);
        due(10, "against", x.chain(0, 3), -1);
        due(10, "from the same face", x.round(0, 3, 3), -1);
        due(10, "c -1", x.round(-1, 0, 3), -1);
        due(10, "c 6", x.round(6, 0, 3), -1);
        due(10, "from -1", x.round(0, -1, 3), -1);
        due(10, "from 12", x.round(0, 12, 3), -1);
        due(10, "to -1", x.round(0, 0, -1), -1);
        due(10, "to 12", x.round(0, 0, 12), -1);
        due(10, "both -1", x.round(0, -1, -1), -1);
        FitBench line = new FitBench();
        for (int m = 0; m < 11; m++) {
            line.join(m, m, m + 1);
        }
        line.ends(5, 3, 4);
        due(10, "through all faces", line.round(5, 0, 11), 11);
        due(10, "the ends stay", line.chain(5, 12), 3);
        line.join(11, 11, 0);
        due(10, "round a ring", line.round(5, 0, 1), -2);
        FitBench dead = new FitBench();
        dead.join(0, 0, 7);
        dead.join(1, 7, 8);
        dead.join(2, 9, 0);
        dead.join(3, 1, 0);
        due(10, "past dead ends", dead.round(0, 0, 1), 1);
        int[] alone = {0, 0, 0, -1};
        for (int m = 0; m < 4; m++) {
            due(10, "share of " + m, dead.chain(0, m), alone[m]);
        }
    }

    private static void over() {
        FitBench x = new FitBench();
        x.join(0, 0, 1);
        x.join(1, 1, 2);
        x.join(2, 5, 6);
        due(11, "none", x.over(), 0);
        x.join(3, 2, 0);
        due(11, "a ring", x.over(), 1);
        x.join(4, 6, 5);
        due(11, "one beside another", x.over(), 2);
        x.join(5, 2, 5);
        due(11, "two drawings made one", x.over(), 2);
        x.join(6, 6, 0);
        due(11, "a larger ring", x.over(), 3);
        x.join(0, -1, -1);
        due(11, "one less", x.over(), 2);
        FitBench many = new FitBench();
        for (int m = 0; m < 12; m++) {
            many.join(m, m % 2, 1 - m % 2);
        }
        due(11, "twelve between two", many.over(), 11);
    }

    private static void worst() {
        FitBench x = new FitBench();
        x.measure(0, 0, 100, -4, 1);
        x.measure(1, 0, 30, -2, 3);
        x.measure(2, 1, 7, -9, 9);
        x.measure(3, 2, 5, -9, 9);
        shares(x, 0, 2, -3, 1, -1);
        due(12, "least: 200 - 8 - 90 - 9 + 7 - 5", x.worst(0, 0), 95);
        due(12, "greatest: 200 + 2 - 90 + 6 + 7 - 5", x.worst(0, 1), 120);
        due(12, "no misses", x.worst(0, 2), 112);
        x.book(0, -4, 0);
        due(12, "a book does not narrow it", x.worst(0, 0), 95);
        due(12, "no shares", x.worst(1, 0), 0);
        due(12, "what -1", x.worst(0, -1), -10000000);
        due(12, "what 3", x.worst(0, 3), -10000000);
        due(12, "c -1", x.worst(-1, 0), -10000000);
        due(12, "c 6", x.worst(6, 0), -10000000);
        FitBench far = new FitBench();
        for (int m = 0; m < 12; m++) {
            far.measure(m, 0, -10000, -40, 40);
            far.share(0, m, 3);
        }
        due(12, "as low as can be", far.worst(0, 0), -361440);
        due(12, "and its greatest", far.worst(0, 1), -358560);
    }

    private static void corner() {
        FitBench x = new FitBench();
        x.measure(0, 0, 100, -4, 1);
        x.measure(1, 0, 30, -2, 3);
        x.measure(2, 1, 7, -9, 9);
        x.measure(3, 2, 5, -9, 9);
        x.measure(4, 0, 5, -9, 9);
        shares(x, 0, 2, -3, 1, -1);
        due(13, "least", x.corner(0, 0, 0), -4);
        due(13, "greatest", x.corner(0, 0, 1), 1);
        due(13, "least, against", x.corner(0, 1, 0), 3);
        due(13, "greatest, against", x.corner(0, 1, 1), -2);
        due(13, "held", x.corner(0, 2, 0), 0);
        due(13, "shim", x.corner(0, 3, 1), 0);
        due(13, "no share", x.corner(0, 4, 0), 0);
        due(13, "no share", x.corner(0, 4, 1), 0);
        due(13, "which -1", x.corner(0, 0, -1), -1000);
        due(13, "which 2", x.corner(0, 0, 2), -1000);
        due(13, "c -1", x.corner(-1, 0, 0), -1000);
        due(13, "c 6", x.corner(6, 0, 0), -1000);
        due(13, "m -1", x.corner(0, -1, 0), -1000);
        due(13, "m 12", x.corner(0, 12, 0), -1000);
    }

    private static void always() {
        FitBench x = bench(-2, 3);
        x.share(0, 0, -1);
        x.ends(0, -3, 2);
        due(14, "just", x.always(0), 1);
        x.ends(0, -2, 2);
        due(14, "low too high", x.always(0), 0);
        x.ends(0, -3, 1);
        due(14, "high too low", x.always(0), 0);
        x.book(0, -2, 0);
        due(14, "a book does not help", x.always(0), 0);
        x.measure(0, 1, 0, -2, 3);
        due(14, "held", x.always(0), 1);
        x.ends(1, 1, 2);
        due(14, "no shares, and 0 is not right", x.always(1), 0);
        due(14, "c -1", x.always(-1), -1);
        due(14, "c 6", x.always(6), -1);
    }

    private static void chance() {
        FitBench x = bench(-1, 1, 0, 3);
        shares(x, 0, 2, -1);
        x.ends(0, -2, -1);
        // 2a - b with a in -1 .. 1 and b in 0 .. 3: (-1,0), (0,1), (0,2), (1,3).. of 12: -2 -2 -1; 2-3 = -1.
        due(15, "4 of 12", x.chance(0, 0), 1);
        due(15, "4 of 12", x.chance(0, 1), 3);
        x.book(1, 3, 0);
        due(15, "3 of 9", x.chance(0, 1), 3);
        x.book(0, 1, 5);
        due(15, "3 of 21", x.chance(0, 1), 7);
        x.measure(5, 0, 9, -40, 40);
        due(15, "a measure without a share does not count", x.chance(0, 1), 7);
        x.measure(1, 2, 0, 0, 3);
        due(15, "a shim counts as 0: -2 in 1 of 7", x.chance(0, 0), 1);
        due(15, "a shim counts as 0: -2 in 1 of 7", x.chance(0, 1), 7);
        x.ends(1, 1, 1);
        due(15, "no shares: never right", x.chance(1, 0), 0);
        due(15, "no shares: never right", x.chance(1, 1), 1);
        due(15, "what -1", x.chance(0, -1), -1);
        due(15, "what 2", x.chance(0, 2), -1);
        due(15, "c -1", x.chance(-1, 0), -1);
        due(15, "c 6", x.chance(6, 1), -1);
        FitBench full = new FitBench();
        for (int m = 0; m < 12; m++) {
            full.measure(m, 0, 0, -4, 5);
            full.share(0, m, m % 2 == 0 ? 3 : -3);
        }
        full.ends(0, 162, 162);
        due(15, "1 of 1000000000000 is not spent", full.chance(0, 1), 1000000000000L);
        due(15, "1 of 1000000000000 is not spent", full.chance(0, 0), 1);
        full.book(11, 0, 2);
        due(15, "spent", full.chance(0, 0), -2);
        due(15, "spent", full.chance(0, 1), -2);
        due(15, "spent, but no such line", full.chance(0, 2), -1);
        full.book(11, 1, 0);
        due(15, "as many again", full.chance(0, 1), 1000000000000L);
    }

    private static void chanceEdges() {
        FitBench x = bench(0, 1, -1, 0, 0, 0);
        shares(x, 0, 1, 3, 1);
        x.ends(0, -2, 0);
        // 0, 1, -3, -2
        due(15, "2 of 4", x.chance(0, 0), 1);
        due(15, "2 of 4", x.chance(0, 1), 2);
        x.book(2, 0, 9);
        x.book(0, 1, 4);
        // 0: 1, 1: 4, -3: 1, -2: 4, each nine times
        due(15, "45 of 90", x.chance(0, 1), 2);
        x.ends(0, 1, 1);
        due(15, "36 of 90", x.chance(0, 0), 2);
        due(15, "36 of 90", x.chance(0, 1), 5);
        FitBench uneven = bench(-40, 40);
        for (int miss = -40; miss <= 40; miss++) {
            uneven.book(0, miss, miss % 2 == 0 ? 2 : 5);
        }
        uneven.share(0, 0, -1);
        uneven.ends(0, -40, -40);
        due(15, "2 of 82 + 200", uneven.chance(0, 1), 141);
        uneven.ends(0, -39, -38);
        due(15, "7 of 282", uneven.chance(0, 0), 7);
        due(15, "7 of 282", uneven.chance(0, 1), 282);
        uneven.ends(0, 39, 40);
        due(15, "7 of 282", uneven.chance(0, 0), 7);
        uneven.ends(0, 5, 7);
        due(15, "12 of 282", uneven.chance(0, 1), 47);
        // 50 to the power of 6 times 64 is 1000000000000.
        FitBench full = new FitBench();
        for (int m = 0; m < 7; m++) {
            full.measure(m, 0, 0, -25, m < 6 ? 24 : 38);
            full.share(0, m, 1);
        }
        full.ends(0, -1000, 1000);
        due(15, "full", full.chance(0, 1), 1);
        full.measure(8, 0, 0, 0, 1);
        full.share(0, 8, 1);
        due(15, "twice as many", full.chance(0, 1), -2);
        full.measure(8, 1, 0, 0, 1);
        due(15, "held", full.chance(0, 1), 1);
        full.measure(8, 0, 0, 0, 1);
        full.book(8, 0, 0);
        due(15, "none of the one kind", full.chance(0, 1), 1);
    }

    private static void both() {
        FitBench x = bench(-1, 1, -1, 1, -1, 1);
        shares(x, 0, 1, 1, 0);
        shares(x, 1, 0, -1, 2);
        x.ends(0, 1, 2);
        x.ends(1, 0, 3);
        // b = -1: none right in c. b = 0: a = 1; 2d >= 0: 2. b = 1: a = 0, 1; -1 + 2d >= 0: d = 1: 2. 4 of 27.
        due(16, "4 of 27", x.both(0, 1, 0), 4);
        due(16, "4 of 27", x.both(0, 1, 1), 27);
        due(16, "turned", x.both(1, 0, 0), 4);
        due(16, "one and the same: 3 of 9", x.both(0, 0, 1), 3);
        due(16, "with one that has no shares", x.both(0, 5, 1), 3);
        x.ends(5, 1, 1);
        due(16, "with one that is never right", x.both(0, 5, 0), 0);
        due(16, "with one that is never right", x.both(0, 5, 1), 1);
        x.book(1, 1, 0);
        due(16, "2 of 18", x.both(0, 1, 0), 1);
        due(16, "2 of 18", x.both(0, 1, 1), 9);
        x.measure(2, 1, 0, -1, 1);
        due(16, "one held: b = 0, a = 1: 1 of 3 * 3 (the book is of 2)", x.both(0, 1, 1), 6);
        due(16, "what -1", x.both(0, 1, -1), -1);
        due(16, "what 2", x.both(0, 1, 2), -1);
        due(16, "c -1", x.both(-1, 1, 0), -1);
        due(16, "c 6", x.both(6, 1, 0), -1);
        due(16, "d -1", x.both(0, -1, 0), -1);
        due(16, "d 6", x.both(0, 6, 0), -1);
    }

    private static void bothSpent() {
        FitBench x = bench(-40, 20, -40, 40, -40, 40, -40, 40, -20, 39);
        shares(x, 0, 3, 1, 1, 0, -1);
        shares(x, 1, 2, 2, 1, 1, 1);
        due(16, "width 180 + 80 + 80 + 59", x.worst(0, 1) - x.worst(0, 0), 399);
        due(16, "width 120 + 160 + 80 + 80 + 59", x.worst(1, 1) - x.worst(1, 0), 499);
        x.ends(0, -1000, 1000);
        x.ends(1, -1000, 1000);
        due(16, "400 * 500 is not spent: all are right", x.both(0, 1, 0), 1);
        due(16, "400 * 500 is not spent: all are right", x.both(0, 1, 1), 1);
        due(16, "turned", x.both(1, 0, 1), 1);
        x.ends(0, -239, -239);
        due(16, "the least gap of c", x.worst(0, 0), -239);
        // It is that of the misses -40, -40, -40 and 39 (of the last): in d at most -80 - 80 - 40 + 40 + 39.
        x.ends(1, -120, 1000);
        due(16, "none is right", x.both(0, 1, 0), 0);
        x.ends(1, -121, 1000);
        due(16, "just one is right", x.both(0, 1, 0), 1);
        due(16, "just one is right", x.both(0, 1, 1), 61L * 81 * 81 * 81 * 60);
        x.measure(5, 0, 0, 0, 1);
        x.share(0, 5, 1);
        due(16, "401 * 500 is spent", x.both(0, 1, 0), -2);
        due(16, "401 * 500 is spent", x.both(0, 1, 1), -2);
        due(16, "each alone is not", x.chance(0, 1), 61L * 81 * 81 * 60 * 2);
        due(16, "spent, but no such line", x.both(0, 1, 2), -1);
        // 409 * 489 is 200001.
        FitBench over = bench(-40, 40, -40, 40, -4, 4, -40, 40, -40, 40, -4, 4);
        shares(over, 0, 3, 2, 1);
        shares(over, 1, 0, 0, 0, 3, 3, 1);
        due(16, "width", over.worst(0, 1) - over.worst(0, 0), 408);
        due(16, "width", over.worst(1, 1) - over.worst(1, 0), 488);
        due(16, "200001 is spent", over.both(0, 1, 0), -2);
        due(16, "200001 is spent", over.both(1, 0, 1), -2);
        over.measure(5, 0, 0, -4, 3);
        over.ends(0, 1000, 1000);
        due(16, "409 * 488 is not", over.both(0, 1, 0), 0);
        FitBench full = new FitBench();
        for (int m = 0; m < 12; m++) {
            full.measure(m, 0, 0, -4, 5);
            full.share(m / 6, m, 1);
        }
        full.ends(0, 30, 30);
        full.ends(1, -24, -24);
        due(16, "1 of 1000000000000 is not spent", full.both(0, 1, 1), 1000000000000L);
        full.book(3, 5, 2);
        due(16, "too many parts", full.both(0, 1, 1), -2);
        due(16, "though not of each alone", full.chance(0, 1), 550000);
    }

    private static void mean() {
        FitBench x = new FitBench();
        x.measure(0, 0, 10, -1, 2);
        x.measure(1, 0, 3, -2, 0);
        shares(x, 0, 3, -1);
        // 3 * (10 + 1/2) - (3 - 1) = 29 1/2
        due(17, "59 / 2", x.mean(0, 0), 59);
        due(17, "59 / 2", x.mean(0, 1), 2);
        x.book(1, -2, 9);
        // misses of 1: -18 - 1 of 11: 31.5 - 3 + 19/11 = (693 - 66 + 38) / 22
        due(17, "665 / 22", x.mean(0, 0), 665);
        due(17, "665 / 22", x.mean(0, 1), 22);
        x.share(0, 0, -3);
        // -31.5 - 3 + 19/11 = (-693 - 66 + 38) / 22
        due(17, "-721 / 22", x.mean(0, 0), -721);
        due(17, "-721 / 22: the lower line is above 0", x.mean(0, 1), 22);
        x.measure(1, 1, 3, -2, 0);
        due(17, "held: -69 / 2", x.mean(0, 0), -69);
        due(17, "no shares", x.mean(1, 0), 0);
        due(17, "no shares", x.mean(1, 1), 1);
        x.share(2, 1, 1);
        x.measure(1, 0, 3, -2, 2);
        x.book(1, -2, 4);
        due(17, "3 and (-8 - 1 + 0 + 1 + 2) / 8", x.mean(2, 0), 9);
        due(17, "9 / 4", x.mean(2, 1), 4);
        for (int miss = -2; miss < 2; miss++) {
            x.book(1, miss, 0);
        }
        due(17, "one part alone, that misses by 2", x.mean(2, 0), 5);
        due(17, "one part alone, that misses by 2", x.mean(2, 1), 1);
        due(17, "c -1", x.mean(-1, 0), 0);
        due(17, "c 6", x.mean(6, 1), 0);
        due(17, "what -1", x.mean(0, -1), -1);
        due(17, "what 2", x.mean(0, 2), -1);
        due(17, "no such chain, and another what", x.mean(6, 2), -1);
        FitBench full = new FitBench();
        for (int m = 0; m < 12; m++) {
            full.measure(m, 0, 10000, -4, 5);
            full.share(0, m, 3);
        }
        due(17, "of 1000000000000 parts", full.mean(0, 0), 360018);
        due(17, "of 1000000000000 parts", full.mean(0, 1), 1);
        full.book(3, 5, 2);
        due(17, "spent", full.mean(0, 0), 0);
        due(17, "spent", full.mean(0, 1), 0);
        due(17, "spent, and another what", full.mean(0, 5), -1);
    }

    private static void span() {
        FitBench x = bench(-2, 2);
        x.share(0, 0, 3);
        int[] book = {3, 0, 1, 5, 1};
        for (int i = 0; i < 5; i++) {
            x.book(0, i - 2, book[i]);
        }
        // Gaps -6: 3, 0: 1, 3: 5, 6: 1, of 10.
        spanDue(x, 0, 10, -6, 6);
        spanDue(x, 1, 10, -6, 3);
        spanDue(x, 2, 10, -6, 3);
        spanDue(x, 3, 10, 0, 6);
        spanDue(x, 4, 10, 0, 3);
        spanDue(x, 399, 1000, 0, 6);
        spanDue(x, 5, 10, 3, 3);
        spanDue(x, 0, 1000, -6, 6);
        spanDue(x, 999, 1000, -6, -6);
        x.share(0, 0, -3);
        spanDue(x, 3, 10, -6, 0);
        spanDue(x, 4, 10, -6, -3);
        spanDue(x, 7, 10, -3, -3);
    }

    private static void spanDue(FitBench x, int part, int whole, int least, int greatest) {
        due(18, "least of " + part + " / " + whole, x.span(0, part, whole, 0), least);
        due(18, "greatest of " + part + " / " + whole, x.span(0, part, whole, 1), greatest);
    }

    private static void spanEdges() {
        FitBench x = bench(-2, 2);
        x.share(0, 0, 1);
        x.book(0, -2, 0);
        x.book(0, 2, 0);
        spanDue(x, 0, 1, -1, 1);
        x.measure(1, 0, 500, 0, 0);
        x.share(0, 1, 1);
        spanDue(x, 0, 1000, 499, 501);
        spanDue(x, 1, 3, 499, 500);
        spanDue(x, 2, 3, 499, 499);
        spanDue(x, 333, 1000, 499, 501);
        spanDue(x, 334, 1000, 499, 500);
        int none = -10000000;
        due(18, "part is whole", x.span(0, 1, 1, 0), none);
        due(18, "part is whole", x.span(0, 1000, 1000, 1), none);
        due(18, "part above whole", x.span(0, 3, 2, 0), none);
        due(18, "part -1", x.span(0, -1, 2, 0), none);
        due(18, "whole 0", x.span(0, 0, 0, 0), none);
        due(18, "whole -1", x.span(0, -2, -1, 0), none);
        due(18, "whole 1001", x.span(0, 0, 1001, 0), none);
        due(18, "what -1", x.span(0, 0, 1, -1), none);
        due(18, "what 2", x.span(0, 0, 1, 2), none);
        due(18, "c -1", x.span(-1, 0, 1, 0), none);
        due(18, "c 6", x.span(6, 0, 1, 0), none);
        due(18, "no shares", x.span(5, 0, 1, 1), 0);
        FitBench full = new FitBench();
        for (int m = 0; m < 12; m++) {
            full.measure(m, 0, 0, -4, 5);
            full.share(0, m, 1);
        }
        due(18, "1000000000000 parts", full.span(0, 0, 1000, 0), -48);
        due(18, "1000000000000 parts", full.span(0, 0, 1000, 1), 60);
        full.book(0, 0, 2);
        due(18, "spent", full.span(0, 0, 1000, 1), none);
    }

    private static void pull() {
        FitBench x = new FitBench();
        x.measure(0, 0, 5, -4, 1);
        x.measure(1, 0, 5, -2, 0);
        x.measure(2, 1, 5, -2, 2);
        x.measure(3, 2, 5, -2, 2);
        shares(x, 0, 1, -3, 1, 1);
        due(19, "1 * 5", x.pull(0, 0), 5);
        due(19, "3 * 2", x.pull(0, 1), 6);
        due(19, "held", x.pull(0, 2), 0);
        due(19, "shim", x.pull(0, 3), 0);
        due(19, "no share", x.pull(1, 0), 0);
        due(19, "c -1", x.pull(-1, 0), -1);
        due(19, "c 6", x.pull(6, 0), -1);
        due(19, "m -1", x.pull(0, -1), -1);
        due(19, "m 12", x.pull(0, 12), -1);
    }

    private static void level() {
        FitBench x = new FitBench();
        due(20, "first", x.level(0, -40, 40, 0), 1);
        due(20, "second", x.level(0, 0, 0, 1000000), 2);
        due(20, "price -1", x.level(0, 0, 0, -1), -1);
        due(20, "price too high", x.level(0, 0, 0, 1000001), -1);
        due(20, "below -41", x.level(0, -41, 0, 0), -1);
        due(20, "below 1", x.level(0, 1, 1, 0), -1);
        due(20, "above -1", x.level(0, -1, -1, 0), -1);
        due(20, "above 41", x.level(0, 0, 41, 0), -1);
        due(20, "m -1", x.level(-1, 0, 0, 0), -1);
        due(20, "m 12", x.level(12, 0, 0, 0), -1);
        due(20, "third", x.level(0, 0, 0, 0), 3);
        due(20, "fourth", x.level(0, 0, 0, 0), 4);
        due(20, "fifth", x.level(0, 0, 0, 0), -1);
        due(20, "of(0, 5)", x.of(0, 5), 4);
        x.measure(1, 1, 0, 0, 0);
        x.measure(2, 2, 0, 0, 0);
        for (int m = 1; m < 8; m++) {
            due(20, "of measure " + m, x.level(m, 0, 0, 0), 1);
        }
        due(20, "8 others have some", x.level(8, 0, 0, 0), -1);
        due(20, "of(8, 5)", x.of(8, 5), 0);
        due(20, "7 others have some", x.level(7, 0, 0, 0), 2);
        x.plain(3);
        due(20, "one less", x.level(8, 0, 0, 0), 1);
        due(20, "8 others again", x.level(3, 0, 0, 0), -1);
    }

    private static void plain() {
        FitBench x = new FitBench();
        due(21, "none", x.plain(0), 0);
        x.level(0, 0, 0, 1);
        x.level(0, 0, 0, 2);
        due(21, "two", x.plain(0), 2);
        due(21, "of(0, 5)", x.of(0, 5), 0);
        due(21, "no more", x.plain(0), 0);
        due(21, "m -1", x.plain(-1), -1);
        due(21, "m 12", x.plain(12), -1);
        x.level(0, 0, 0, 7);
        due(21, "new ones count from 0 on", x.best(), 7);
    }

    private static void best() {
        FitBench x = bench(-9, 9, -9, 9, -1, 1);
        shares(x, 0, 1, -2, 1);
        x.ends(0, -10, 10);
        due(22, "no levels, and not right", x.best(), -1);
        x.level(0, -9, 0, 1);
        x.level(0, -3, 3, 10);
        x.level(1, -3, 3, 2);
        x.level(1, 0, 4, 3);
        // Low: a - 2 * above - 1, high: a' - 2 * below + 1, within -10 .. 10.
        // (0,0): -9-6-1 no. (0,1): no. (1,0): -3-6-1 = -10, 3+6+1 = 10: 12. (1,1): -3-8-1 no.
        due(22, "one good choice", x.best(), 12);
        due(22, "choice(0)", x.choice(0), 1);
        due(22, "choice(1)", x.choice(1), 0);
        due(22, "choice(2)", x.choice(2), -1);
        x.ends(0, -9, 10);
        due(22, "none", x.best(), -1);
        x.ends(0, -10, 9);
        due(22, "none", x.best(), -1);
        x.measure(0, 2, 0, -9, 9);
        due(22, "a shim has no level and no miss: 0 .. 4 gives -9 .. 1", x.best(), 2);
        x.ends(0, -7, 6);
        due(22, "misses of 2 count too", x.best(), -1);
        x.ends(0, -9, 6);
        due(22, "the other level", x.best(), 3);
        x.ends(5, 5, 5);
        due(22, "one that is not asked does not matter", x.best(), 3);
        x.share(5, 11, 1);
        due(22, "now it is asked", x.best(), -1);
        x.measure(11, 0, 5, 0, 0);
        due(22, "and right", x.best(), 3);
        FitBench dear = new FitBench();
        for (int m = 0; m < 8; m++) {
            dear.level(m, 0, 0, 1000000);
        }
        due(22, "dear", dear.best(), 8000000);
        FitBench by1 = bench(0, 0, -2, 2);
        by1.level(0, 0, 0, 3);
        by1.level(0, 0, 0, 2);
        due(22, "cheaper by 1", by1.best(), 2);
        by1.level(1, 0, 0, 0);
        by1.level(1, 0, 0, 10);
        due(22, "with one that may cost nothing", by1.best(), 2);
        by1.plain(1);
        by1.measure(0, 0, 0, -5, 5);
        by1.plain(0);
        by1.level(1, 0, 0, 1);
        by1.level(1, -1, 1, 0);
        shares(by1, 0, 1, 1);
        by1.ends(0, -5, 5);
        due(22, "the first measure misses by its own", by1.best(), 1);
        by1.ends(0, -4, 5);
        due(22, "the first measure misses by its own", by1.best(), -1);
        by1.ends(0, -5, 4);
        due(22, "the first measure misses by its own", by1.best(), -1);
        by1.ends(0, -6, 6);
        due(22, "wide enough", by1.best(), 0);
    }

    /** Six chains of eight measures with levels that cost 0, 10, 20, 30 for misses by 3, 2, 1, 0 at most. */
    private static FitBench sixChains() {
        FitBench x = new FitBench();
        for (int m = 0; m < 8; m++) {
            x.measure(m + 2, 0, 0, -40, 40);
            for (int l = 0; l < 4; l++) {
                x.level(m + 2, l - 3, 3 - l, l * 10);
            }
            x.share(m % 6, m + 2, 1);
        }
        for (int c = 0; c < 6; c++) {
            x.ends(c, -2, 2);
        }
        return x;
    }

    private static void bestOverChains() {
        FitBench x = sixChains();
        // Chains 0 and 1 have two measures: together 2: prices 20 + 20, 10 + 30, ..; the others 2: price 10.
        due(22, "six chains", x.best(), 120);
        x.ends(1, 0, 0);
        due(22, "one narrower", x.best(), 140);
        x.plain(9);
        due(22, "a measure with misses of its own", x.best(), -1);
    }

    private static void choiceOverChains() {
        FitBench x = sixChains();
        x.best();
        int[] want = {1, 1, 1, 1, 1, 1, 3, 3};
        for (int m = 0; m < 8; m++) {
            due(23, "choice(" + (m + 2) + ")", x.choice(m + 2), want[m]);
        }
        x.ends(1, 0, 0);
        x.best();
        due(23, "choice(3)", x.choice(3), 3);
        due(23, "choice(9)", x.choice(9), 3);
    }

    private static void choice() {
        FitBench x = bench(-1, 1, -1, 1, -1, 1);
        for (int m = 0; m < 12; m++) {
            due(23, "ahead of any", x.choice(m), -1);
        }
        for (int m = 0; m < 3; m++) {
            x.level(m, 0, 0, 4);
            x.level(m, 0, 0, 2);
            x.level(m, 0, 0, 2);
        }
        due(23, "none told yet", x.choice(0), -1);
        due(23, "best", x.best(), 6);
        for (int m = 0; m < 3; m++) {
            due(23, "the lower of two with one price", x.choice(m), 1);
        }
        x.share(0, 0, 1);
        x.ends(0, 9, 9);
        due(23, "best", x.best(), -1);
        due(23, "of the latest that told one", x.choice(0), 1);
        x.plain(0);
        due(23, "as it was", x.choice(0), 1);
        x.share(0, 0, 0);
        due(23, "best", x.best(), 4);
        due(23, "of one without", x.choice(0), -1);
        due(23, "of one with", x.choice(2), 1);
        x.measure(2, 1, 0, 0, 0);
        due(23, "best", x.best(), 2);
        due(23, "of one that is held", x.choice(2), -1);
        due(23, "m -1", x.choice(-1), -1);
        due(23, "m 12", x.choice(12), -1);
        FitBench first = bench(-3, 3, -3, 3);
        shares(first, 0, 1, 1);
        first.ends(0, -3, 3);
        first.level(0, -2, 2, 1);
        first.level(0, -1, 1, 2);
        first.level(1, -2, 2, 1);
        first.level(1, -1, 1, 2);
        due(23, "best", first.best(), 3);
        due(23, "the lower level of the first measure", first.choice(0), 0);
        due(23, "though that of the second is higher", first.choice(1), 1);
    }

    private static void part() {
        FitBench x = new FitBench();
        due(24, "least size", x.part(0, -10000), 1);
        due(24, "greatest size", x.part(0, 10000), 2);
        due(24, "too small", x.part(0, -10001), -1);
        due(24, "too great", x.part(0, 10001), -1);
        due(24, "lot -1", x.part(-1, 0), -1);
        due(24, "lot 2", x.part(2, 0), -1);
        for (int k = 1; k <= 24; k++) {
            due(24, "part " + k, x.part(1, 5), k);
        }
        due(24, "the 25th", x.part(1, 5), -1);
        due(24, "the other lot has room", x.part(0, 5), 3);
        due(24, "pairs", x.match(0, 0), 1);
    }

    private static void sweep() {
        FitBench x = new FitBench();
        x.part(0, 1);
        x.part(0, 2);
        x.part(1, 1);
        due(25, "two", x.sweep(0), 2);
        due(25, "none left", x.sweep(0), 0);
        due(25, "no pairs", x.match(-9, 9), 0);
        due(25, "from the first again", x.part(0, 1), 1);
        due(25, "the other lot stays", x.match(0, 0), 1);
        due(25, "lot -1", x.sweep(-1), -1);
        due(25, "lot 2", x.sweep(2), -1);
        due(25, "one", x.sweep(1), 1);
    }

    private static void match() {
        FitBench x = new FitBench();
        int[] first = {0, 4, 8};
        int[] second = {3, 5, 12};
        for (int i = 0; i < 3; i++) {
            x.part(0, first[i]);
            x.part(1, second[i]);
        }
        due(26, "b less a, not a less b", x.match(3, 5), 2);
        due(26, "turned", x.match(-5, -3), 1);
        due(26, "each in one pair at most", x.match(1, 1), 1);
        due(26, "all", x.match(-30000, 30000), 3);
        due(26, "low above high", x.match(1, 0), -1);
        due(26, "low too low", x.match(-30001, 0), -1);
        due(26, "high too high", x.match(0, 30001), -1);
        due(26, "low too high", x.match(30001, 30001), -1);
        due(26, "far", x.match(LEAST, MOST), -1);
        FitBench ends = new FitBench();
        ends.part(0, -10000);
        ends.part(1, 10000);
        due(26, "20000", ends.match(20000, 20000), 1);
        due(26, "not 20001", ends.match(20001, 30000), 0);
        ends.part(0, 9999);
        ends.part(0, 9998);
        due(26, "more of the one lot", ends.match(0, 1), 1);
        due(26, "the less one does not fit", ends.match(1, 1), 1);
        due(26, "all fit", ends.match(-30000, 30000), 1);
        ends.sweep(0);
        ends.part(0, 20);
        ends.part(0, 30);
        ends.part(0, 10000);
        due(26, "only the last one fits", ends.match(0, 0), 1);
    }

    private static void mate() {
        FitBench x = new FitBench();
        int[] first = {7, 2, 7, 1};
        int[] second = {8, 2, 8, 3, 2};
        for (int size : first) {
            x.part(0, size);
        }
        for (int size : second) {
            x.part(1, size);
        }
        due(27, "ahead of any", x.mate(0), -1);
        due(27, "pairs", x.match(0, 1), 4);
        due(27, "1 takes the first 2", x.mate(3), 1);
        due(27, "2 takes the other 2", x.mate(1), 4);
        due(27, "the first 7 takes the first 8", x.mate(0), 0);
        due(27, "the second 7 takes the second 8", x.mate(2), 2);
        due(27, "refused", x.match(3, 2), -1);
        due(27, "as it was", x.mate(3), 1);
        x.part(0, 1);
        x.sweep(1);
        due(27, "as it was", x.mate(2), 2);
        due(27, "none of a part that came later", x.mate(4), -1);
        due(27, "no pairs", x.match(0, 1), 0);
        due(27, "none", x.mate(2), -1);
        due(27, "k -1", x.mate(-1), -1);
        due(27, "k 24", x.mate(24), -1);
        due(27, "k far", x.mate(MOST), -1);
        FitBench full = new FitBench();
        for (int k = 0; k < 24; k++) {
            full.part(0, k);
            full.part(1, 23 - k);
        }
        due(27, "all", full.match(0, 0), 24);
        for (int k = 0; k < 24; k++) {
            due(27, "mate(" + k + ")", full.mate(k), 23 - k);
        }
    }

    private static void shim() {
        FitBench x = bench(-4, 6);
        x.measure(1, 2, 50, -7, 7);
        shares(x, 0, 1, 1);
        x.ends(0, 50, 50);
        // Gaps 46 .. 56: the shim is needed up to 4 more and 6 less: 13 sizes, 6 on each side.
        due(28, "13 by 1", x.shim(0, 1, 1), 13);
        x.share(0, 1, -1);
        x.ends(0, -50, -50);
        // Now the gap falls as the shim grows: 6 more and 4 less: 12 sizes, 5 below and 6 above.
        due(28, "12 by 1", x.shim(0, 1, 1), 12);
        x.ends(0, -60, -40);
        due(28, "one is enough", x.shim(0, 1, 1), 1);
        x.ends(0, -50, -48);
        // -54 .. -44: at the one end 4 .. 6 less of the shim, at the other 4 .. 6 more: two steps each.
        due(28, "by 3", x.shim(0, 1, 3), 5);
        due(28, "by 4 some gap is left out", x.shim(0, 1, 4), -2);
        x.share(0, 0, 2);
        x.ends(0, -50, -50);
        due(28, "only even gaps: by 2", x.shim(0, 1, 2), 12);
        due(28, "by 3 some gap is left out", x.shim(0, 1, 3), -2);
        x.book(0, 6, 0);
        due(28, "all parts, booked or not", x.shim(0, 1, 2), 12);
        x.measure(0, 1, 0, -4, 6);
        due(28, "held", x.shim(0, 1, 1000), 1);
        due(28, "step 0", x.shim(0, 1, 0), -1);
        due(28, "step -1", x.shim(0, 1, -1), -1);
        due(28, "step 1001", x.shim(0, 1, 1001), -1);
        due(28, "c -1", x.shim(-1, 1, 1), -1);
        due(28, "c 6", x.shim(6, 1, 1), -1);
        due(28, "m -1", x.shim(0, -1, 1), -1);
        due(28, "m 12", x.shim(0, 12, 1), -1);
        due(28, "held is no shim", x.shim(0, 0, 1), -1);
        x.share(0, 1, 2);
        due(28, "share 2", x.shim(0, 1, 1), -1);
        x.share(0, 1, -3);
        due(28, "share -3", x.shim(0, 1, 1), -1);
        x.share(0, 1, 0);
        due(28, "share 0", x.shim(0, 1, 1), -1);
        x.share(0, 1, 1);
        x.measure(1, 0, 50, 0, 0);
        due(28, "free is no shim", x.shim(0, 1, 1), -1);
    }

    private static void shimLimits() {
        FitBench x = new FitBench();
        x.measure(1, 2, 0, 0, 0);
        x.share(0, 1, 1);
        x.ends(0, -1000, -1000);
        due(28, "1000 below", x.shim(0, 1, 1), 2001);
        x.ends(0, 1000, 1000);
        due(28, "1000 above", x.shim(0, 1, 1), 2000);
        x.ends(0, -1001, -1001);
        due(28, "1001 below", x.shim(0, 1, 1), -2);
        x.ends(0, 1001, 1001);
        due(28, "1001 above", x.shim(0, 1, 1), -2);
        x.ends(0, 100000, 100000);
        due(28, "by 1000", x.shim(0, 1, 1000), 200);
        x.ends(0, 99999, 99999);
        due(28, "by 1000 none", x.shim(0, 1, 1000), -2);
        x.measure(2, 0, 0, -40, 40);
        x.share(0, 2, 3);
        x.ends(0, -3, 0);
        due(28, "-120 .. 120 by 3: 39 or 40 more, 40 less", x.shim(0, 1, 3), 81);
        x.measure(3, 2, 7, -2, 2);
        x.share(0, 3, 1);
        due(28, "another shim has a size, but does not miss: 127 less", x.shim(0, 1, 1), 2 * 127 + 1);
        FitBench holes = bench(0, 1, 0, 1);
        holes.measure(2, 2, 0, 0, 0);
        shares(holes, 0, 1, 3, 1);
        holes.ends(0, 0, 1);
        // Gaps 0, 1, 3, 4; a 2 would not be met.
        due(28, "by 3", holes.shim(0, 2, 3), 3);
        due(28, "by 2", holes.shim(0, 2, 2), 5);
        due(28, "by 4: 3 is not met", holes.shim(0, 2, 4), -2);
        shares(holes, 0, 3, 1, 1);
        due(28, "the same, told the other way round", holes.shim(0, 2, 3), 3);
        shares(holes, 0, 1, 3, 1);
        holes.measure(0, 0, 0, 0, 2);
        due(28, "now 2 is there", holes.shim(0, 2, 3), -2);
        holes.measure(0, 0, 0, 0, 0);
        holes.ends(0, 3, 6);
        due(28, "one more", holes.shim(0, 2, 3), 2);
        holes.ends(0, -3, 0);
        due(28, "one less", holes.shim(0, 2, 3), 3);
    }

    private static void image() {
        FitBench x = bench(-1, 1);
        for (int place = 0; place < 3; place++) {
            x.measure(5, 0, place + 100, 0, 0);
            yes(29, "place " + place, x.image(place));
        }
        due(29, "nothing changes", x.of(5, 1), 102);
        no(29, "place -1", x.image(-1));
        no(29, "place 3", x.image(3));
        no(29, "place far", x.image(LEAST));
        x.back(1);
        due(29, "place 1", x.of(5, 1), 101);
        yes(29, "over what was there", x.image(0));
        x.back(2);
        due(29, "place 2", x.of(5, 1), 102);
        x.back(0);
        due(29, "place 0 anew", x.of(5, 1), 101);
    }

    private static void back() {
        FitBench x = bench(-2, 2, -1, 1);
        no(30, "nothing yet", x.back(0));
        x.measure(2, 2, 11, -3, 3);
        x.book(0, 2, 9);
        x.join(0, 1, 2);
        x.level(0, -1, 2, 4);
        x.level(0, -1, 1, 5);
        shares(x, 0, 1, -1, 1);
        x.ends(0, 9, 13);
        x.part(0, 1);
        x.part(1, 2);
        x.match(1, 1);
        x.best();
        look(x);
        yes(30, "image", x.image(2));
        x.tear(0);
        x.measure(2, 0, 1, 0, 0);
        x.join(0, -1, -1);
        x.plain(0);
        x.level(0, -9, 0, 1);
        x.level(0, 0, 9, 2);
        x.level(0, 0, 0, 0);
        x.level(0, 0, 0, 0);
        x.share(0, 0, 3);
        x.ends(0, -1000, 1000);
        x.sweep(0);
        x.sweep(1);
        x.part(0, 8);
        x.part(0, 9);
        x.part(0, 4);
        x.part(1, 5);
        x.part(1, 5);
        x.match(0, 0);
        x.best();
        due(30, "changed", x.of(0, 4), 0);
        due(30, "changed", x.mate(0), -1);
        no(30, "place 0: nothing", x.back(0));
        no(30, "place -1", x.back(-1));
        no(30, "place 3", x.back(3));
        due(30, "still changed", x.of(0, 4), 0);
        yes(30, "back", x.back(2));
        look(x);
        x.book(0, 2, 1);
        x.share(0, 1, 0);
        x.part(1, 77);
        yes(30, "back again: what was kept did not change", x.back(2));
        look(x);
    }

    private static void look(FitBench x) {
        int[] first = {0, 0, -2, 2, 1, 2, 1, 2};
        int[] third = {2, 11, -3, 3, 0, 0, -1, -1};
        for (int what = 0; what < 8; what++) {
            due(30, "of(0, " + what + ")", x.of(0, what), first[what]);
            due(30, "of(2, " + what + ")", x.of(2, what), third[what]);
        }
        int[] chain = {1, -1, 1, 0, 0, 0, 0, 0, 0, 0, 0, 0, 9, 13, 1};
        for (int what = 0; what < 15; what++) {
            due(30, "chain(0, " + what + ")", x.chain(0, what), chain[what]);
        }
        // 11 + a - b, right from 9 to 13; a: 1 1 1 1 9 of 13, b: 1 1 1: wrong are (-2, 1) and (2, -1): 10 of 39.
        due(30, "chance(0, 0)", x.chance(0, 0), 29);
        due(30, "chance(0, 1)", x.chance(0, 1), 39);
        due(30, "mate(0)", x.mate(0), 0);
        due(30, "choice(0)", x.choice(0), 1);
        due(30, "choice(1)", x.choice(1), -1);
        due(30, "match", x.match(1, 1), 1);
        due(30, "match of all", x.match(-30000, 30000), 1);
        due(30, "best", x.best(), 5);
        due(30, "ends", x.ends(0, 9, 14) ? 1 : 0, 1);
        due(30, "best, wider above", x.best(), 4);
        due(30, "ends", x.ends(0, 10, 14) ? 1 : 0, 1);
        due(30, "best, narrower below", x.best(), -1);
        due(30, "ends", x.ends(0, 9, 13) ? 1 : 0, 1);
        due(30, "best", x.best(), 5);
    }
}
