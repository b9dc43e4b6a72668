import java.util.Arrays;

/**
 * A bench for things put together of parts: measures that may miss, drawings,
 * chains of measures and their gaps, care, lots and shims.
 */
public final class FitBench {
    public static final int NONE = -1;

    private static final int MEASURES = 12;
    private static final int CHAINS = 6;
    private static final int FACES = 12;
    private static final int LOTS = 2;
    private static final int PLACES = 3;

    private static final int FREE = 0;
    private static final int SHIM = 2;

    private static final int MOST_SIZE = 10000;
    private static final int MOST_MISS = 40;
    private static final int MOST_MANY = 9;
    private static final int MOST_SHARE = 3;
    private static final int MOST_END = 100000;
    private static final int MOST_LEVELS = 4;
    private static final int MOST_GRADED = 8;
    private static final int MOST_PRICE = 1000000;
    private static final int MOST_IN_LOT = 24;
    private static final int MOST_FIT = 30000;
    private static final int MOST_OF_WHOLE = 1000;
    private static final int MOST_STEP = 1000;
    private static final int MOST_STEPS = 2001;
    private static final int MOST_WIDTH = MEASURES * MOST_SHARE * 2 * MOST_MISS;
    private static final int SOME_CELLS = 24000;
    private static final int MOST_CELLS = 200000;
    private static final long MOST_PARTS = 1000000000000L;

    private static final int NO_MEASURE = -100000;
    private static final int NO_CHAIN = -1000000;
    private static final int NO_GAP = -10000000;
    private static final int NO_MISS = -1000;
    private static final int SPENT = -2;
    private static final int SEVERAL = -2;
    private static final int TOO_MANY = -2;

    private final State now = new State();
    private final State[] kept = new State[PLACES];
    /** No share and the ends 0 and 0: the second chain where only one is asked for. */
    private final Chain flat = new Chain();
    private final Drawing drawing = new Drawing();
    private final Spread spread = new Spread();
    private final Care care = new Care();

    public FitBench() {
    }

    public boolean measure(int m, int kind, int size, int below, int above) {
        if (!isMeasure(m) || !within(kind, FREE, SHIM) || !within(size, -MOST_SIZE, MOST_SIZE)
                || !canMiss(below, above)) {
            return false;
        }
        Measure one = now.measures[m];
        one.kind = kind;
        one.size = size;
        one.below = below;
        one.above = above;
        one.booked = false;
        return true;
    }

    public boolean book(int m, int miss, int many) {
        if (!isMeasure(m) || !within(many, 0, MOST_MANY)) {
            return false;
        }
        return now.measures[m].write(miss, many);
    }

    public boolean tear(int m) {
        if (!isMeasure(m)) {
            return false;
        }
        boolean had = now.measures[m].booked;
        now.measures[m].booked = false;
        return had;
    }

    public int of(int m, int what) {
        if (!isMeasure(m)) {
            return NO_MEASURE;
        }
        Measure one = now.measures[m];
        switch (what) {
            case 0: return one.kind;
            case 1: return one.size;
            case 2: return one.below;
            case 3: return one.above;
            case 4: return one.booked ? 1 : 0;
            case 5: return one.levels;
            case 6: return one.from;
            case 7: return one.to;
            default: return NO_MEASURE;
        }
    }

    public boolean share(int c, int m, int share) {
        if (!isChain(c) || !isMeasure(m) || !within(share, -MOST_SHARE, MOST_SHARE)) {
            return false;
        }
        now.chains[c].shares[m] = share;
        return true;
    }

    public boolean ends(int c, int low, int high) {
        if (!isChain(c) || low > high || !within(low, -MOST_END, MOST_END)
                || !within(high, -MOST_END, MOST_END)) {
            return false;
        }
        now.chains[c].low = low;
        now.chains[c].high = high;
        return true;
    }

    public int chain(int c, int what) {
        if (!isChain(c)) {
            return NO_CHAIN;
        }
        Chain one = now.chains[c];
        if (within(what, 0, MEASURES - 1)) {
            return one.shares[what];
        }
        switch (what) {
            case MEASURES: return one.low;
            case MEASURES + 1: return one.high;
            case MEASURES + 2: return one.isAsked() ? 1 : 0;
            default: return NO_CHAIN;
        }
    }

    // ---- drawings

    public boolean join(int m, int from, int to) {
        boolean noMore = from == NONE && to == NONE;
        if (!isMeasure(m) || !noMore && (!isFace(from) || !isFace(to) || from == to)) {
            return false;
        }
        now.measures[m].from = from;
        now.measures[m].to = to;
        return true;
    }

    public int round(int c, int from, int to) {
        if (!isChain(c) || !isFace(from) || !isFace(to) || from == to) {
            return NONE;
        }
        int ways = drawing.seekWays(now.measures, from, to);
        if (ways == 0) {
            return 0;
        }
        if (ways > 1) {
            return SEVERAL;
        }
        int length = 0;
        for (int m = 0; m < MEASURES; m++) {
            now.chains[c].shares[m] = drawing.found[m];
            length += Math.abs(drawing.found[m]);
        }
        return length;
    }

    public int over() {
        return drawing.countClosing(now.measures);
    }

    // ---- gaps

    public int worst(int c, int what) {
        if (!isChain(c)) {
            return NO_GAP;
        }
        Chain one = now.chains[c];
        switch (what) {
            case 0: return one.leastGap(now.measures);
            case 1: return one.greatestGap(now.measures);
            case 2: return one.plainGap(now.measures);
            default: return NO_GAP;
        }
    }

    public int corner(int c, int m, int which) {
        if (!isChain(c) || !isMeasure(m) || !within(which, 0, 1)) {
            return NO_MISS;
        }
        int share = now.chains[c].shares[m];
        return now.measures[m].lessening(which == 0 ? share : -share);
    }

    public int always(int c) {
        if (!isChain(c)) {
            return NONE;
        }
        Chain one = now.chains[c];
        boolean right = one.leastGap(now.measures) >= one.low && one.greatestGap(now.measures) <= one.high;
        return right ? 1 : 0;
    }

    public long chance(int c, int what) {
        if (!isChain(c) || !within(what, 0, 1)) {
            return NONE;
        }
        return rightOf(now.chains[c], flat, what);
    }

    public long both(int c, int d, int what) {
        if (!isChain(c) || !isChain(d) || !within(what, 0, 1)) {
            return NONE;
        }
        return rightOf(now.chains[c], now.chains[d], what);
    }

    public long mean(int c, int what) {
        if (!within(what, 0, 1)) {
            return NONE;
        }
        if (!isChain(c)) {
            return 0;
        }
        Chain one = now.chains[c];
        long all = now.countParts(one, flat);
        if (all > MOST_PARTS) {
            return 0;
        }
        long sum = all * one.plainGap(now.measures);
        for (int m = 0; m < MEASURES; m++) {
            Measure each = now.measures[m];
            long lot = each.lotSize();
            if (each.kind == FREE && one.shares[m] != 0 && lot > 0) {
                sum += all / lot * each.missSum() * one.shares[m];
            }
        }
        return lineOf(sum, all, what);
    }

    public int span(int c, int part, int whole, int what) {
        if (!isChain(c) || !within(what, 0, 1) || !within(whole, 1, MOST_OF_WHOLE)
                || part < 0 || part >= whole) {
            return NO_GAP;
        }
        Chain one = now.chains[c];
        long all = now.countParts(one, flat);
        if (all > MOST_PARTS || !spread.lay(now.measures, one, flat)) {
            return NO_GAP;
        }
        // Falling out at most part / whole is the same as staying at least (whole - part) / whole.
        spread.seekNarrowest(all * (whole - part), whole);
        return one.leastGap(now.measures) + (what == 0 ? spread.first : spread.last);
    }

    public int pull(int c, int m) {
        if (!isChain(c) || !isMeasure(m)) {
            return NONE;
        }
        return Math.abs(now.chains[c].shares[m]) * now.measures[m].missRange();
    }

    // ---- care

    public int level(int m, int below, int above, int price) {
        if (!isMeasure(m) || !canMiss(below, above) || !within(price, 0, MOST_PRICE)) {
            return NONE;
        }
        Measure one = now.measures[m];
        if (one.levels >= MOST_LEVELS || one.levels == 0 && now.countGraded() >= MOST_GRADED) {
            return NONE;
        }
        one.levelBelow[one.levels] = below;
        one.levelAbove[one.levels] = above;
        one.levelPrice[one.levels] = price;
        one.levels++;
        return one.levels;
    }

    public int plain(int m) {
        if (!isMeasure(m)) {
            return NONE;
        }
        int had = now.measures[m].levels;
        now.measures[m].levels = 0;
        return had;
    }

    public long best() {
        return care.seekCheapest(now);
    }

    public int choice(int m) {
        return isMeasure(m) ? now.measures[m].chosen : NONE;
    }

    // ---- lots, shims

    public int part(int lot, int size) {
        if (!isLot(lot) || !within(size, -MOST_SIZE, MOST_SIZE)) {
            return NONE;
        }
        Lot one = now.lots[lot];
        if (one.count >= MOST_IN_LOT) {
            return NONE;
        }
        one.sizes[one.count] = size;
        one.count++;
        return one.count;
    }

    public int sweep(int lot) {
        if (!isLot(lot)) {
            return NONE;
        }
        int had = now.lots[lot].count;
        now.lots[lot].count = 0;
        return had;
    }

    public int match(int low, int high) {
        if (low > high || !within(low, -MOST_FIT, MOST_FIT) || !within(high, -MOST_FIT, MOST_FIT)) {
            return NONE;
        }
        return now.pairLots(low, high);
    }

    public int mate(int k) {
        return within(k, 0, MOST_IN_LOT - 1) ? now.mates[k] : NONE;
    }

    public int shim(int c, int m, int step) {
        if (!isChain(c) || !isMeasure(m) || !within(step, 1, MOST_STEP)) {
            return NONE;
        }
        Chain one = now.chains[c];
        if (now.measures[m].kind != SHIM || Math.abs(one.shares[m]) != 1) {
            return NONE;
        }
        spread.layReached(now.measures, one);
        int least = one.leastGap(now.measures);
        int needed = 1;
        for (int x = 0; x < spread.rows; x++) {
            if (spread.at(x, 0) > 0) {
                needed = Math.max(needed, stepsFor(one, least + x, one.shares[m], step));
            }
        }
        return needed > MOST_STEPS ? TOO_MANY : needed;
    }

    // ---- images

    public boolean image(int place) {
        if (!isPlace(place)) {
            return false;
        }
        if (kept[place] == null) {
            kept[place] = new State();
        }
        kept[place].takeAll(now);
        return true;
    }

    public boolean back(int place) {
        if (!isPlace(place) || kept[place] == null) {
            return false;
        }
        now.takeAll(kept[place]);
        return true;
    }

    // ---- within

    private static boolean within(int value, int least, int greatest) {
        return least <= value && value <= greatest;
    }

    private static boolean isMeasure(int m) {
        return within(m, 0, MEASURES - 1);
    }

    private static boolean isChain(int c) {
        return within(c, 0, CHAINS - 1);
    }

    private static boolean isFace(int face) {
        return within(face, 0, FACES - 1);
    }

    private static boolean isLot(int lot) {
        return within(lot, 0, LOTS - 1);
    }

    private static boolean isPlace(int place) {
        return within(place, 0, PLACES - 1);
    }

    private static boolean canMiss(int below, int above) {
        return within(below, -MOST_MISS, 0) && within(above, 0, MOST_MISS);
    }

    private long rightOf(Chain c, Chain d, int what) {
        long all = now.countParts(c, d);
        if (all > MOST_PARTS || !spread.lay(now.measures, c, d)) {
            return SPENT;
        }
        int leastOfC = c.leastGap(now.measures);
        int leastOfD = d.leastGap(now.measures);
        int fromRow = Math.max(0, c.low - leastOfC);
        int toRow = Math.min(spread.rows - 1, c.high - leastOfC);
        int fromColumn = Math.max(0, d.low - leastOfD);
        int toColumn = Math.min(spread.columns - 1, d.high - leastOfD);
        long right = 0;
        for (int x = fromRow; x <= toRow; x++) {
            for (int y = fromColumn; y <= toColumn; y++) {
                right += spread.at(x, y);
            }
        }
        return lineOf(right, all, what);
    }

    /** One line of the fraction in lowest terms: 0 the upper, 1 the lower. */
    private static long lineOf(long upper, long lower, int what) {
        long divisor = commonDivisor(Math.abs(upper), lower);
        if (divisor <= 0) {
            return NONE;
        }
        return (what == 0 ? upper : lower) / divisor;
    }

    private static long commonDivisor(long a, long b) {
        long x = a;
        long y = b;
        // No two longs need more than 92 turns.
        for (int turn = 0; turn < 100 && y != 0; turn++) {
            long rest = x % y;
            x = y;
            y = rest;
        }
        return x;
    }

    /** The least number of sizes of a shim among which one makes this gap right; too great a one if none can. */
    private static int stepsFor(Chain chain, int gap, int share, int step) {
        if (step < 1) {
            return MOST_STEPS + 1;
        }
        int first = -Math.floorDiv(gap - chain.low, step);
        int last = Math.floorDiv(chain.high - gap, step);
        if (first > last) {
            return MOST_STEPS + 1;
        }
        int leastUp = share > 0 ? first : -last;
        int greatestUp = share > 0 ? last : -first;
        // Sizes are added in turn above and below the middle one, above first.
        if (leastUp > 0) {
            return 2 * leastUp;
        }
        return greatestUp < 0 ? 1 - 2 * greatestUp : 1;
    }

    /** A measure with its book, its levels and its place in the drawing. */
    private static final class Measure {
        int kind;
        int size;
        int below;
        int above;
        boolean booked;
        /** The book's numbers, at miss + MOST_MISS; they count only while it is booked. */
        final int[] numbers = new int[2 * MOST_MISS + 1];
        int from = NONE;
        int to = NONE;
        int levels;
        final int[] levelBelow = new int[MOST_LEVELS];
        final int[] levelAbove = new int[MOST_LEVELS];
        final int[] levelPrice = new int[MOST_LEVELS];
        int chosen = NONE;

        /** How many parts miss by this; 0 beyond the ends, so that a walk may look one too far. */
        int numberAt(int miss) {
            if (miss < below || miss > above) {
                return 0;
            }
            return booked ? numbers[miss + MOST_MISS] : 1;
        }

        boolean write(int miss, int number) {
            if (miss < below || miss > above || number == 0 && lotSize() == numberAt(miss)) {
                return false;
            }
            if (!booked) {
                Arrays.fill(numbers, 1);
                booked = true;
            }
            numbers[miss + MOST_MISS] = number;
            return true;
        }

        int lotSize() {
            int sum = 0;
            for (int miss = below; miss <= above; miss++) {
                sum += numberAt(miss);
            }
            return sum;
        }

        int missSum() {
            int sum = 0;
            for (int miss = below; miss <= above; miss++) {
                sum += miss * numberAt(miss);
            }
            return sum;
        }

        /** The miss that makes a share of this measure least. */
        int lessening(int share) {
            if (kind != FREE || share == 0) {
                return 0;
            }
            return share > 0 ? below : above;
        }

        int missRange() {
            return kind == FREE ? above - below : 0;
        }

        boolean isGraded() {
            return kind == FREE && levels > 0;
        }

        void takeAll(Measure other) {
            kind = other.kind;
            size = other.size;
            below = other.below;
            above = other.above;
            booked = other.booked;
            System.arraycopy(other.numbers, 0, numbers, 0, numbers.length);
            from = other.from;
            to = other.to;
            levels = other.levels;
            System.arraycopy(other.levelBelow, 0, levelBelow, 0, MOST_LEVELS);
            System.arraycopy(other.levelAbove, 0, levelAbove, 0, MOST_LEVELS);
            System.arraycopy(other.levelPrice, 0, levelPrice, 0, MOST_LEVELS);
            chosen = other.chosen;
        }
    }

    /** A chain: its shares of the measures and its ends. */
    private static final class Chain {
        final int[] shares = new int[MEASURES];
        int low;
        int high;

        boolean isAsked() {
            for (int m = 0; m < MEASURES; m++) {
                if (shares[m] != 0) {
                    return true;
                }
            }
            return false;
        }

        int plainGap(Measure[] measures) {
            int gap = 0;
            for (int m = 0; m < MEASURES; m++) {
                gap += shares[m] * measures[m].size;
            }
            return gap;
        }

        int leastGap(Measure[] measures) {
            int gap = plainGap(measures);
            for (int m = 0; m < MEASURES; m++) {
                gap += shares[m] * measures[m].lessening(shares[m]);
            }
            return gap;
        }

        int greatestGap(Measure[] measures) {
            return leastGap(measures) + gapWidth(measures);
        }

        int gapWidth(Measure[] measures) {
            int width = 0;
            for (int m = 0; m < MEASURES; m++) {
                width += Math.abs(shares[m]) * measures[m].missRange();
            }
            return width;
        }

        void takeAll(Chain other) {
            System.arraycopy(other.shares, 0, shares, 0, MEASURES);
            low = other.low;
            high = other.high;
        }
    }

    /** The parts of a lot, as they came. */
    private static final class Lot {
        final int[] sizes = new int[MOST_IN_LOT];
        int count;

        /** The least part of those not in the mask whose size is within the ends (of the same size the first). */
        int leastWithin(int mask, int least, int greatest) {
            int found = NONE;
            for (int i = 0; i < count; i++) {
                boolean fits = (mask >> i & 1) == 0 && within(sizes[i], least, greatest);
                if (fits && (found == NONE || sizes[i] < sizes[found])) {
                    found = i;
                }
            }
            return found;
        }

        void takeAll(Lot other) {
            System.arraycopy(other.sizes, 0, sizes, 0, MOST_IN_LOT);
            count = other.count;
        }
    }

    /** All that an image keeps. */
    private static final class State {
        final Measure[] measures = new Measure[MEASURES];
        final Chain[] chains = new Chain[CHAINS];
        final Lot[] lots = new Lot[LOTS];
        final int[] mates = new int[MOST_IN_LOT];

        State() {
            for (int m = 0; m < MEASURES; m++) {
                measures[m] = new Measure();
            }
            for (int c = 0; c < CHAINS; c++) {
                chains[c] = new Chain();
            }
            for (int l = 0; l < LOTS; l++) {
                lots[l] = new Lot();
            }
            Arrays.fill(mates, NONE);
        }

        /** The parts of all free measures in one chain or the other; any number above the most once it is passed. */
        long countParts(Chain c, Chain d) {
            long all = 1;
            for (int m = 0; m < MEASURES && all <= MOST_PARTS; m++) {
                if (measures[m].kind == FREE && (c.shares[m] != 0 || d.shares[m] != 0)) {
                    all *= measures[m].lotSize();
                }
            }
            return all;
        }

        int countGraded() {
            int graded = 0;
            for (int m = 0; m < MEASURES; m++) {
                if (measures[m].levels > 0) {
                    graded++;
                }
            }
            return graded;
        }

        /**
         * By size, each part takes the least one left that fits. As all parts
         * ask for windows of one length, no other pairing has more pairs.
         */
        int pairLots(int low, int high) {
            Arrays.fill(mates, NONE);
            int pairs = 0;
            int seen = 0;
            int taken = 0;
            for (int turn = 0; turn < lots[0].count; turn++) {
                int a = lots[0].leastWithin(seen, -MOST_SIZE, MOST_SIZE);
                if (a == NONE) {
                    break;
                }
                seen |= 1 << a;
                int size = lots[0].sizes[a];
                int b = lots[1].leastWithin(taken, size + low, size + high);
                if (b != NONE) {
                    taken |= 1 << b;
                    mates[a] = b;
                    pairs++;
                }
            }
            return pairs;
        }

        void takeAll(State other) {
            for (int m = 0; m < MEASURES; m++) {
                measures[m].takeAll(other.measures[m]);
            }
            for (int c = 0; c < CHAINS; c++) {
                chains[c].takeAll(other.chains[c]);
            }
            for (int l = 0; l < LOTS; l++) {
                lots[l].takeAll(other.lots[l]);
            }
            System.arraycopy(other.mates, 0, mates, 0, MOST_IN_LOT);
        }
    }

    /** Ways through the drawing of faces. */
    private static final class Drawing {
        /** The way found last: 1 along, -1 against, 0 not on it. */
        final int[] found = new int[MEASURES];
        private final int[] trail = new int[MEASURES];
        private final int[] groups = new int[FACES];

        /** How many ways there are; beyond one it may stop counting. */
        int seekWays(Measure[] measures, int from, int to) {
            Arrays.fill(trail, 0);
            return walk(this, measures, from, to, 1 << from, 0);
        }

        private static int walk(Drawing drawing, Measure[] measures, int face, int to, int seen, int depth) {
            if (face == to) {
                System.arraycopy(drawing.trail, 0, drawing.found, 0, MEASURES);
                return 1;
            }
            int ways = 0;
            for (int m = 0; m < MEASURES && depth < FACES && ways < 2; m++) {
                boolean along = measures[m].from == face;
                boolean against = measures[m].to == face;
                int next = along ? measures[m].to : measures[m].from;
                if ((along || against) && isFace(next) && (seen >> next & 1) == 0) {
                    drawing.trail[m] = along ? 1 : -1;
                    ways += walk(drawing, measures, next, to, seen | 1 << next, depth + 1);
                    drawing.trail[m] = 0;
                }
            }
            return ways;
        }

        /** How many measures, taken in turn, join faces that are joined already. */
        int countClosing(Measure[] measures) {
            for (int face = 0; face < FACES; face++) {
                groups[face] = face;
            }
            int closing = 0;
            for (int m = 0; m < MEASURES; m++) {
                int from = measures[m].from;
                int to = measures[m].to;
                if (isFace(from) && isFace(to)) {
                    if (groups[from] == groups[to]) {
                        closing++;
                    } else {
                        uniteGroups(groups[from], groups[to]);
                    }
                }
            }
            return closing;
        }

        private void uniteGroups(int one, int other) {
            for (int face = 0; face < FACES; face++) {
                if (groups[face] == one) {
                    groups[face] = other;
                }
            }
        }
    }

    /**
     * How many parts have each pair of gaps of two chains. Gap x above the
     * least one of the first and y above that of the second stand at
     * x * columns + y of one row, so that a measure is a polynomial in one
     * unknown by which the row is multiplied: x and y never pass the widths,
     * so no two pairs meet in one cell.
     */
    private static final class Spread {
        int rows;
        int columns;
        /** The narrowest span found last. */
        int first;
        int last;
        private long[] row = new long[MOST_WIDTH + 1];
        /** No cell behind it is other than 0. */
        private int reach;
        /** Where the numbers of a book change from miss to miss, and by how much. */
        private final int[] changeAt = new int[2 * MOST_MISS + 2];
        private final int[] changeBy = new int[2 * MOST_MISS + 2];
        private int changes;

        /** False if there would be too many cells. */
        boolean lay(Measure[] measures, Chain c, Chain d) {
            if (!clear(c.gapWidth(measures) + 1, d.gapWidth(measures) + 1)) {
                return false;
            }
            for (int m = 0; m < MEASURES; m++) {
                if (measures[m].kind == FREE && (c.shares[m] != 0 || d.shares[m] != 0)) {
                    spreadBy(measures[m], c.shares[m], d.shares[m]);
                }
            }
            return true;
        }

        /** Above 0 where some parts, booked or not, have the gap. */
        void layReached(Measure[] measures, Chain c) {
            if (!clear(c.gapWidth(measures) + 1, 1)) {
                return;
            }
            for (int m = 0; m < MEASURES; m++) {
                int stride = Math.abs(c.shares[m]);
                if (stride > 0 && measures[m].missRange() > 0) {
                    reachBy(stride, measures[m].missRange());
                }
            }
        }

        long at(int x, int y) {
            int cell = x * columns + y;
            return cell >= 0 && cell < row.length ? row[cell] : 0;
        }

        /** Finds the narrowest run of cells with at least needed / whole parts, of several the lowest. */
        void seekNarrowest(long needed, int whole) {
            first = 0;
            last = rows - 1;
            long inside = 0;
            int next = 0;
            for (int from = 0; from < rows; from++) {
                while (next < rows && inside * whole < needed) {
                    inside += at(next, 0);
                    next++;
                }
                if (inside * whole < needed) {
                    return;
                }
                if (next - 1 - from < last - first) {
                    first = from;
                    last = next - 1;
                }
                inside -= at(from, 0);
            }
        }

        private boolean clear(int newRows, int newColumns) {
            rows = 0;
            columns = 0;
            reach = 0;
            long cells = (long) newRows * newColumns;
            if (newRows < 1 || newColumns < 1 || cells > MOST_CELLS) {
                return false;
            }
            if (row.length < cells) {
                // In two steps, not as needed: an object never makes more than three rows.
                row = new long[cells <= SOME_CELLS ? SOME_CELLS : MOST_CELLS];
            }
            rows = newRows;
            columns = newColumns;
            Arrays.fill(row, 0, (int) cells, 0L);
            row[0] = 1;
            return true;
        }

        /** Multiplies the row by the sum, over all misses, of number times unknown to the power of the move. */
        private void spreadBy(Measure one, int shareOfC, int shareOfD) {
            int range = one.above - one.below;
            int step = shareOfC * columns + shareOfD;
            int start = range * (Math.max(0, -shareOfC) * columns + Math.max(0, -shareOfD));
            int top = reach + range * (Math.abs(shareOfC) * columns + Math.abs(shareOfD));
            boolean upward = step > 0;
            if (top >= row.length) {
                return;
            }
            if (range == 0) {
                timesAll(one.numberAt(one.below));
                return;
            }
            // The same product with the misses told from the other end, where a greater miss moves down.
            noteChanges(one, upward);
            int firstMove = upward ? start : start + range * step;
            sumBy(Math.abs(step), top);
            weighChanges(firstMove, Math.abs(step), top);
            reach = top;
        }

        private void timesAll(int number) {
            for (int cell = 0; cell <= reach; cell++) {
                row[cell] *= number;
            }
        }

        /** Most numbers of a book are like the one ahead: to go by changes saves most of the work. */
        private void noteChanges(Measure one, boolean upward) {
            changes = 0;
            int previous = 0;
            int range = one.above - one.below;
            for (int k = 0; k <= range + 1 && changes < changeAt.length; k++) {
                int number = one.numberAt(upward ? one.below + k : one.above - k);
                if (number != previous) {
                    changeAt[changes] = k;
                    changeBy[changes] = number - previous;
                    changes++;
                }
                previous = number;
            }
        }

        private void sumBy(int step, int top) {
            for (int cell = step; cell <= top; cell++) {
                row[cell] += row[cell - step];
            }
        }

        /** From the top down, as each cell is made of itself and cells below it. */
        private void weighChanges(int firstMove, int step, int top) {
            for (int cell = top; cell >= 0; cell--) {
                long sum = 0;
                for (int i = 0; i < changes; i++) {
                    int source = cell - firstMove - changeAt[i] * step;
                    if (source < 0) {
                        break;
                    }
                    sum += changeBy[i] * row[source];
                }
                row[cell] = sum;
            }
        }

        /** A reached cell holds one more than how many strides still go on from it. */
        private void reachBy(int stride, int range) {
            int top = reach + stride * range;
            if (stride < 1 || top >= row.length) {
                return;
            }
            for (int cell = 0; cell <= top; cell++) {
                if (row[cell] > 0) {
                    row[cell] = range + 1;
                } else if (cell >= stride && row[cell - stride] > 1) {
                    row[cell] = row[cell - stride] - 1;
                }
            }
            reach = top;
        }
    }

    /** The search for the cheapest good choice of levels. */
    private static final class Care {
        /** Stands for the room of a chain that is not asked: more than any misses take. */
        private static final int AMPLE = 1000000000;

        private final int[] graded = new int[MOST_GRADED];
        private int count;
        private final int[] picks = new int[MOST_GRADED];
        private final int[] foundPicks = new int[MOST_GRADED];
        private int foundPrice;
        /** What the measures from each depth on cost at least. */
        private final int[] restPrice = new int[MOST_GRADED + 1];
        /** How far each chain's least gap is above its low end, and its greatest below its high one, by depth. */
        private final int[] roomLow = new int[(MOST_GRADED + 1) * CHAINS];
        private final int[] roomHigh = new int[(MOST_GRADED + 1) * CHAINS];

        int seekCheapest(State state) {
            gatherGraded(state.measures);
            foundPrice = NONE;
            if (startRooms(state)) {
                pick(this, state, 0, 0);
            }
            if (foundPrice != NONE) {
                tellChoice(state.measures);
            }
            return foundPrice;
        }

        private void gatherGraded(Measure[] measures) {
            count = 0;
            for (int m = 0; m < MEASURES; m++) {
                if (measures[m].isGraded() && count < MOST_GRADED) {
                    graded[count] = m;
                    count++;
                }
            }
            restPrice[count] = 0;
            for (int i = count - 1; i >= 0; i--) {
                restPrice[i] = restPrice[i + 1] + leastPrice(measures[graded[i]]);
            }
        }

        private static int leastPrice(Measure one) {
            int least = MOST_PRICE;
            for (int l = 0; l < one.levels; l++) {
                least = Math.min(least, one.levelPrice[l]);
            }
            return least;
        }

        /** The rooms while no graded measure misses yet; false if even so a chain is not always right. */
        private boolean startRooms(State state) {
            boolean good = true;
            for (int c = 0; c < CHAINS; c++) {
                Chain one = state.chains[c];
                int least = one.plainGap(state.measures);
                int greatest = least;
                for (int m = 0; m < MEASURES; m++) {
                    if (!state.measures[m].isGraded()) {
                        least += one.shares[m] * state.measures[m].lessening(one.shares[m]);
                        greatest += one.shares[m] * state.measures[m].lessening(-one.shares[m]);
                    }
                }
                boolean asked = one.isAsked();
                roomLow[c] = asked ? least - one.low : AMPLE;
                roomHigh[c] = asked ? one.high - greatest : AMPLE;
                good = good && roomLow[c] >= 0 && roomHigh[c] >= 0;
            }
            return good;
        }

        /** Levels are tried from the lowest on, so of choices with one price the first is found first. */
        private static void pick(Care care, State state, int depth, int price) {
            if (care.foundPrice != NONE && price + care.restPrice[depth] >= care.foundPrice) {
                return;
            }
            if (depth >= care.count) {
                care.foundPrice = price;
                System.arraycopy(care.picks, 0, care.foundPicks, 0, care.count);
                return;
            }
            Measure one = state.measures[care.graded[depth]];
            for (int l = 0; l < one.levels; l++) {
                if (care.narrow(state, depth, l)) {
                    care.picks[depth] = l;
                    pick(care, state, depth + 1, price + one.levelPrice[l]);
                }
            }
        }

        /** The rooms one deeper, with this level; misses only ever take of them, so none below 0 can be good again. */
        private boolean narrow(State state, int depth, int l) {
            int m = graded[depth];
            int below = state.measures[m].levelBelow[l];
            int above = state.measures[m].levelAbove[l];
            for (int c = 0; c < CHAINS; c++) {
                int share = state.chains[c].shares[m];
                int at = depth * CHAINS + c;
                int low = roomLow[at] + share * (share > 0 ? below : above);
                int high = roomHigh[at] - share * (share > 0 ? above : below);
                if (low < 0 || high < 0) {
                    return false;
                }
                roomLow[at + CHAINS] = low;
                roomHigh[at + CHAINS] = high;
            }
            return true;
        }

        private void tellChoice(Measure[] measures) {
            for (int m = 0; m < MEASURES; m++) {
                measures[m].chosen = NONE;
            }
            for (int i = 0; i < count; i++) {
                measures[graded[i]].chosen = foundPicks[i];
            }
        }
    }
}
