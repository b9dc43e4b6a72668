import java.math.BigInteger;
import java.util.ArrayList;
import java.util.Arrays;
import java.util.Collections;
import java.util.List;
import java.util.Map;
import java.util.TreeMap;
import java.util.TreeSet;

/**
 * The document's words told again by trying everything out, slowly and with
 * the whole Java library, to set the answers of FitBench against.
 */
final class PlainBench {
    private static final BigInteger LIMIT = BigInteger.valueOf(1000000000000L);

    private int[][] facts = new int[12][4];
    private int[][] books = new int[12][];
    private int[][] leads = new int[12][];
    private List<List<int[]>> levels = new ArrayList<>();
    private int[][] shares = new int[6][12];
    private int[][] chainEnds = new int[6][2];
    private int[] chosen = new int[12];
    private List<List<Integer>> lots = new ArrayList<>();
    private int[] mates = new int[24];
    private final PlainBench[] images = new PlainBench[3];

    PlainBench() {
        for (int m = 0; m < 12; m++) {
            levels.add(new ArrayList<>());
        }
        lots.add(new ArrayList<>());
        lots.add(new ArrayList<>());
        Arrays.fill(chosen, -1);
        Arrays.fill(mates, -1);
    }

    private void copyFrom(PlainBench other) {
        for (int m = 0; m < 12; m++) {
            facts[m] = other.facts[m].clone();
            books[m] = other.books[m] == null ? null : other.books[m].clone();
            leads[m] = other.leads[m] == null ? null : other.leads[m].clone();
            levels.set(m, new ArrayList<>(other.levels.get(m)));
        }
        for (int c = 0; c < 6; c++) {
            shares[c] = other.shares[c].clone();
            chainEnds[c] = other.chainEnds[c].clone();
        }
        chosen = other.chosen.clone();
        mates = other.mates.clone();
        for (int l = 0; l < 2; l++) {
            lots.set(l, new ArrayList<>(other.lots.get(l)));
        }
    }

    private static boolean in(int x, int a, int b) {
        return x >= a && x <= b;
    }

    private static boolean m(int m) {
        return in(m, 0, 11);
    }

    private static boolean c(int c) {
        return in(c, 0, 5);
    }

    boolean measure(int m, int kind, int size, int below, int above) {
        if (!m(m) || !in(kind, 0, 2) || !in(size, -10000, 10000) || !in(below, -40, 0) || !in(above, 0, 40)) {
            return false;
        }
        facts[m] = new int[] {kind, size, below, above};
        books[m] = null;
        return true;
    }

    private int[] bookOf(int m) {
        if (books[m] != null) {
            return books[m].clone();
        }
        int[] ones = new int[facts[m][3] - facts[m][2] + 1];
        Arrays.fill(ones, 1);
        return ones;
    }

    boolean book(int m, int miss, int many) {
        if (!m(m) || !in(miss, facts[m][2], facts[m][3]) || !in(many, 0, 9)) {
            return false;
        }
        int[] next = bookOf(m);
        next[miss - facts[m][2]] = many;
        if (Arrays.stream(next).sum() == 0) {
            return false;
        }
        books[m] = next;
        return true;
    }

    boolean tear(int m) {
        boolean had = m(m) && books[m] != null;
        if (had) {
            books[m] = null;
        }
        return had;
    }

    int of(int m, int what) {
        if (!m(m) || !in(what, 0, 7)) {
            return -100000;
        }
        if (what < 4) {
            return facts[m][what];
        }
        if (what == 4) {
            return books[m] == null ? 0 : 1;
        }
        if (what == 5) {
            return levels.get(m).size();
        }
        return leads[m] == null ? -1 : leads[m][what - 6];
    }

    boolean share(int c, int m, int share) {
        if (!c(c) || !m(m) || !in(share, -3, 3)) {
            return false;
        }
        shares[c][m] = share;
        return true;
    }

    boolean ends(int c, int low, int high) {
        if (!c(c) || !in(low, -100000, 100000) || !in(high, low, 100000)) {
            return false;
        }
        chainEnds[c] = new int[] {low, high};
        return true;
    }

    private boolean asked(int c) {
        return Arrays.stream(shares[c]).anyMatch(s -> s != 0);
    }

    int chain(int c, int what) {
        if (!c(c) || !in(what, 0, 14)) {
            return -1000000;
        }
        if (what == 14) {
            return asked(c) ? 1 : 0;
        }
        return what < 12 ? shares[c][what] : chainEnds[c][what - 12];
    }

    boolean join(int m, int from, int to) {
        if (!m(m)) {
            return false;
        }
        if (from == -1 && to == -1) {
            leads[m] = null;
            return true;
        }
        if (!in(from, 0, 11) || !in(to, 0, 11) || from == to) {
            return false;
        }
        leads[m] = new int[] {from, to};
        return true;
    }

    private void ways(int face, int to, TreeSet<Integer> seen, int[] way, List<int[]> all) {
        if (face == to) {
            all.add(way.clone());
            return;
        }
        for (int m = 0; m < 12; m++) {
            for (int end = 0; leads[m] != null && end < 2; end++) {
                int next = leads[m][1 - end];
                if (leads[m][end] == face && !seen.contains(next)) {
                    seen.add(next);
                    way[m] = end == 0 ? 1 : -1;
                    ways(next, to, seen, way, all);
                    way[m] = 0;
                    seen.remove(next);
                }
            }
        }
    }

    private List<int[]> waysBetween(int from, int to) {
        List<int[]> all = new ArrayList<>();
        ways(from, to, new TreeSet<>(List.of(from)), new int[12], all);
        return all;
    }

    int round(int c, int from, int to) {
        if (!c(c) || !in(from, 0, 11) || !in(to, 0, 11) || from == to) {
            return -1;
        }
        List<int[]> all = waysBetween(from, to);
        if (all.size() != 1) {
            return all.isEmpty() ? 0 : -2;
        }
        shares[c] = all.get(0);
        return (int) Arrays.stream(shares[c]).filter(s -> s != 0).count();
    }

    /** Leaves out one measure after the other while its faces stay joined without it. */
    int over() {
        int[][] before = leads.clone();
        int out = 0;
        for (int m = 0; m < 12; m++) {
            if (leads[m] != null) {
                int[] lead = leads[m];
                leads[m] = null;
                if (waysBetween(lead[0], lead[1]).isEmpty()) {
                    leads[m] = lead;
                } else {
                    out++;
                }
            }
        }
        leads = before;
        return out;
    }

    private int lowest(int m, int share, int below, int above) {
        return Math.min(share * (facts[m][1] + below), share * (facts[m][1] + above));
    }

    private int highest(int m, int share, int below, int above) {
        return Math.max(share * (facts[m][1] + below), share * (facts[m][1] + above));
    }

    private int below(int m) {
        return facts[m][0] == 0 ? facts[m][2] : 0;
    }

    private int above(int m) {
        return facts[m][0] == 0 ? facts[m][3] : 0;
    }

    int worst(int c, int what) {
        if (!c(c) || !in(what, 0, 2)) {
            return -10000000;
        }
        int gap = 0;
        for (int m = 0; m < 12; m++) {
            int s = shares[c][m];
            gap += what == 0 ? lowest(m, s, below(m), above(m))
                    : what == 1 ? highest(m, s, below(m), above(m)) : s * facts[m][1];
        }
        return gap;
    }

    int corner(int c, int m, int which) {
        if (!c(c) || !m(m) || !in(which, 0, 1)) {
            return -1000;
        }
        int found = 0;
        for (int miss = below(m); miss <= above(m); miss++) {
            int gain = shares[c][m] * (miss - found);
            if (which == 0 ? gain < 0 : gain > 0) {
                found = miss;
            }
        }
        return found;
    }

    int always(int c) {
        if (!c(c)) {
            return -1;
        }
        return worst(c, 0) >= chainEnds[c][0] && worst(c, 1) <= chainEnds[c][1] ? 1 : 0;
    }

    /** Pairs of gaps with how many parts have them; null when there are too many parts. */
    private Map<List<Integer>, BigInteger> parts(int c, int d) {
        BigInteger all = BigInteger.ONE;
        for (int m = 0; m < 12; m++) {
            if (facts[m][0] == 0 && (shares[c][m] != 0 || shares[d][m] != 0)) {
                all = all.multiply(BigInteger.valueOf(Arrays.stream(bookOf(m)).sum()));
            }
        }
        if (all.compareTo(LIMIT) > 0) {
            return null;
        }
        Map<List<Integer>, BigInteger> now = new java.util.HashMap<>();
        now.put(List.of(worst(c, 2), worst(d, 2)), BigInteger.ONE);
        for (int m = 0; m < 12; m++) {
            if (facts[m][0] == 0 && (shares[c][m] != 0 || shares[d][m] != 0)) {
                Map<List<Integer>, BigInteger> next = new java.util.HashMap<>();
                int[] book = bookOf(m);
                for (Map.Entry<List<Integer>, BigInteger> e : now.entrySet()) {
                    for (int i = 0; i < book.length; i++) {
                        int miss = facts[m][2] + i;
                        if (book[i] != 0) {
                            next.merge(List.of(e.getKey().get(0) + shares[c][m] * miss,
                                    e.getKey().get(1) + shares[d][m] * miss),
                                    e.getValue().multiply(BigInteger.valueOf(book[i])), BigInteger::add);
                        }
                    }
                }
                now = next;
            }
        }
        return now;
    }

    private static long line(BigInteger upper, BigInteger lower, int what) {
        BigInteger g = upper.gcd(lower);
        return (what == 0 ? upper : lower).divide(g).longValueExact();
    }

    private long right(int c, int d, int what) {
        Map<List<Integer>, BigInteger> parts = parts(c, d);
        if (parts == null) {
            return -2;
        }
        BigInteger all = BigInteger.ZERO;
        BigInteger right = BigInteger.ZERO;
        for (Map.Entry<List<Integer>, BigInteger> e : parts.entrySet()) {
            all = all.add(e.getValue());
            if (in(e.getKey().get(0), chainEnds[c][0], chainEnds[c][1])
                    && in(e.getKey().get(1), chainEnds[d][0], chainEnds[d][1])) {
                right = right.add(e.getValue());
            }
        }
        return line(right, all, what);
    }

    long chance(int c, int what) {
        return c(c) && in(what, 0, 1) ? right(c, c, what) : -1;
    }

    long both(int c, int d, int what) {
        if (!c(c) || !c(d) || !in(what, 0, 1)) {
            return -1;
        }
        long cells = (worst(c, 1) - worst(c, 0) + 1L) * (worst(d, 1) - worst(d, 0) + 1L);
        return cells > 200000 ? -2 : right(c, d, what);
    }

    long mean(int c, int what) {
        if (!in(what, 0, 1)) {
            return -1;
        }
        Map<List<Integer>, BigInteger> parts = c(c) ? parts(c, c) : null;
        if (parts == null) {
            return 0;
        }
        BigInteger all = BigInteger.ZERO;
        BigInteger sum = BigInteger.ZERO;
        for (Map.Entry<List<Integer>, BigInteger> e : parts.entrySet()) {
            all = all.add(e.getValue());
            sum = sum.add(e.getValue().multiply(BigInteger.valueOf(e.getKey().get(0))));
        }
        return line(sum, all, what);
    }

    int span(int c, int part, int whole, int what) {
        if (!c(c) || !in(part, 0, 1000) || !in(whole, 1, 1000) || part >= whole || !in(what, 0, 1)) {
            return -10000000;
        }
        Map<List<Integer>, BigInteger> parts = parts(c, c);
        if (parts == null) {
            return -10000000;
        }
        TreeMap<Integer, BigInteger> gaps = new TreeMap<>();
        parts.forEach((gap, many) -> gaps.merge(gap.get(0), many, BigInteger::add));
        BigInteger all = gaps.values().stream().reduce(BigInteger.ZERO, BigInteger::add);
        int[] found = null;
        for (int low : gaps.keySet()) {
            BigInteger inside = BigInteger.ZERO;
            for (Map.Entry<Integer, BigInteger> e : gaps.tailMap(low).entrySet()) {
                inside = inside.add(e.getValue());
                boolean good = all.subtract(inside).multiply(BigInteger.valueOf(whole))
                        .compareTo(all.multiply(BigInteger.valueOf(part))) <= 0;
                if (good && (found == null || e.getKey() - low < found[1] - found[0])) {
                    found = new int[] {low, e.getKey()};
                }
            }
        }
        return found == null ? -10000000 : found[what];
    }

    int pull(int c, int m) {
        if (!c(c) || !m(m)) {
            return -1;
        }
        int with = worst(c, 1) - worst(c, 0);
        int[] before = facts[m];
        facts[m] = new int[] {before[0], before[1], 0, 0};
        int without = worst(c, 1) - worst(c, 0);
        facts[m] = before;
        return with - without;
    }

    int level(int m, int below, int above, int price) {
        if (!m(m) || !in(below, -40, 0) || !in(above, 0, 40) || !in(price, 0, 1000000) || levels.get(m).size() == 4) {
            return -1;
        }
        int others = 0;
        for (int o = 0; o < 12; o++) {
            others += o != m && !levels.get(o).isEmpty() ? 1 : 0;
        }
        if (others >= 8) {
            return -1;
        }
        levels.get(m).add(new int[] {below, above, price});
        return levels.get(m).size();
    }

    int plain(int m) {
        if (!m(m)) {
            return -1;
        }
        int had = levels.get(m).size();
        levels.get(m).clear();
        return had;
    }

    private boolean good(int[] choice) {
        for (int c = 0; c < 6; c++) {
            int low = 0;
            int high = 0;
            for (int m = 0; m < 12; m++) {
                int[] level = choice[m] < 0 ? new int[] {below(m), above(m)} : levels.get(m).get(choice[m]);
                low += lowest(m, shares[c][m], level[0], level[1]);
                high += highest(m, shares[c][m], level[0], level[1]);
            }
            if (asked(c) && (low < chainEnds[c][0] || high > chainEnds[c][1])) {
                return false;
            }
        }
        return true;
    }

    long best() {
        int[] choice = new int[12];
        for (int m = 0; m < 12; m++) {
            choice[m] = facts[m][0] == 0 && !levels.get(m).isEmpty() ? 0 : -1;
        }
        long best = -1;
        boolean more = true;
        while (more) {
            if (good(choice)) {
                long price = 0;
                for (int m = 0; m < 12; m++) {
                    price += choice[m] < 0 ? 0 : levels.get(m).get(choice[m])[2];
                }
                if (best < 0 || price < best) {
                    best = price;
                    chosen = choice.clone();
                }
            }
            more = false;
            for (int m = 11; m >= 0 && !more; m--) {
                if (choice[m] >= 0) {
                    choice[m]++;
                    more = choice[m] < levels.get(m).size();
                    choice[m] = more ? choice[m] : 0;
                }
            }
        }
        return best;
    }

    int choice(int m) {
        return m(m) ? chosen[m] : -1;
    }

    int part(int lot, int size) {
        if (!in(lot, 0, 1) || lots.get(lot).size() == 24 || !in(size, -10000, 10000)) {
            return -1;
        }
        lots.get(lot).add(size);
        return lots.get(lot).size();
    }

    int sweep(int lot) {
        if (!in(lot, 0, 1)) {
            return -1;
        }
        int had = lots.get(lot).size();
        lots.get(lot).clear();
        return had;
    }

    private boolean pairs(int a, int low, int high, boolean[] tried, int[] partner) {
        for (int b = 0; b < lots.get(1).size(); b++) {
            if (in(lots.get(1).get(b) - lots.get(0).get(a), low, high) && !tried[b]) {
                tried[b] = true;
                if (partner[b] < 0 || pairs(partner[b], low, high, tried, partner)) {
                    partner[b] = a;
                    return true;
                }
            }
        }
        return false;
    }

    /** The number by augmenting paths; the mates by the told order. */
    int match(int low, int high) {
        if (!in(low, -30000, 30000) || !in(high, low, 30000)) {
            return -1;
        }
        int[] partner = new int[24];
        Arrays.fill(partner, -1);
        int most = 0;
        for (int a = 0; a < lots.get(0).size(); a++) {
            most += pairs(a, low, high, new boolean[24], partner) ? 1 : 0;
        }
        Arrays.fill(mates, -1);
        List<Integer> order = new ArrayList<>();
        for (int a = 0; a < lots.get(0).size(); a++) {
            order.add(a);
        }
        List<Integer> left = new ArrayList<>();
        for (int b = 0; b < lots.get(1).size(); b++) {
            left.add(b);
        }
        Collections.sort(order, (x, y) -> lots.get(0).get(x) - lots.get(0).get(y));
        Collections.sort(left, (x, y) -> lots.get(1).get(x) - lots.get(1).get(y));
        for (int a : order) {
            for (int i = 0; i < left.size(); i++) {
                if (in(lots.get(1).get(left.get(i)) - lots.get(0).get(a), low, high)) {
                    mates[a] = left.remove(i);
                    break;
                }
            }
        }
        return most;
    }

    int mate(int k) {
        return in(k, 0, 23) ? mates[k] : -1;
    }

    int shim(int c, int m, int step) {
        if (!c(c) || !m(m) || facts[m][0] != 2 || Math.abs(shares[c][m]) != 1 || !in(step, 1, 1000)) {
            return -1;
        }
        TreeSet<Integer> gaps = new TreeSet<>(List.of(worst(c, 2)));
        for (int o = 0; o < 12; o++) {
            TreeSet<Integer> next = new TreeSet<>();
            for (int gap : gaps) {
                for (int miss = below(o); miss <= above(o); miss++) {
                    next.add(gap + shares[c][o] * miss);
                }
            }
            gaps = next;
        }
        for (int n = 1; n <= 2001; n++) {
            // The size added as the number grows: above for an even number, below for an odd one.
            int added = n % 2 == 0 ? n / 2 * step : -(n / 2) * step;
            gaps.removeIf(gap -> in(gap + shares[c][m] * added, chainEnds[c][0], chainEnds[c][1]));
            if (gaps.isEmpty()) {
                return n;
            }
        }
        return -2;
    }

    boolean image(int place) {
        if (!in(place, 0, 2)) {
            return false;
        }
        images[place] = new PlainBench();
        images[place].copyFrom(this);
        return true;
    }

    boolean back(int place) {
        if (!in(place, 0, 2) || images[place] == null) {
            return false;
        }
        copyFrom(images[place]);
        return true;
    }
}
