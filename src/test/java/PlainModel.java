import java.math.BigInteger;
import java.util.ArrayList;
import java.util.Collections;
import java.util.List;
import java.util.Map;
import java.util.TreeMap;

/**
 * The document in its most literal form, for comparison: weights with all factorials, BigInteger for
 * every number, each share counted from a list of all cases.
 */
final class PlainModel {
    static final int UNKNOWN = -1, OUTSIDE = -2, STATE = -3, FULL = -4, NO = -5, SPENT = -7;
    static final int LOST = -1000000001;

    private int[][] table = new int[1][1];
    private final List<Integer> a = new ArrayList<>();
    private final List<Integer> b = new ArrayList<>();
    private final List<int[]> pairs = new ArrayList<>();
    private final List<BigInteger[]> list = new ArrayList<>();
    private final List<Integer> claimed = new ArrayList<>();

    private List<int[][]> cases = new ArrayList<>();
    private BigInteger seenWeight;

    private int test = -1;
    private int statistic;
    private int asked;
    private BigInteger[][] chances;
    private Map<Integer, Long> histogram;

    private static BigInteger big(long v) {
        return BigInteger.valueOf(v);
    }

    private static BigInteger factorial(int n) {
        BigInteger f = BigInteger.ONE;
        for (int i = 2; i <= n; i++) {
            f = f.multiply(big(i));
        }
        return f;
    }

    private static BigInteger[] lowest(BigInteger upper, BigInteger lower) {
        BigInteger g = upper.gcd(lower);
        return new BigInteger[] {upper.divide(g), lower.divide(g)};
    }

    private static int rowSum(int[][] t, int r) {
        int s = 0;
        for (int n : t[r]) {
            s += n;
        }
        return s;
    }

    private static int columnSum(int[][] t, int c) {
        int s = 0;
        for (int[] row : t) {
            s += row[c];
        }
        return s;
    }

    private static int inAll(int[][] t) {
        int s = 0;
        for (int r = 0; r < t.length; r++) {
            s += rowSum(t, r);
        }
        return s;
    }

    private boolean hasRow(int r) {
        return 0 <= r && r < table.length;
    }

    private boolean hasColumn(int c) {
        return 0 <= c && c < table[0].length;
    }

    int table(int rows, int columns) {
        if (rows < 1 || rows > 5 || columns < 1 || columns > 5) {
            return OUTSIDE;
        }
        table = new int[rows][columns];
        return 1;
    }

    int cell(int row, int column, int n) {
        if (!hasRow(row) || !hasColumn(column)) {
            return UNKNOWN;
        }
        if (n < 0 || n > 60) {
            return OUTSIDE;
        }
        int was = table[row][column];
        table[row][column] = n;
        if (inAll(table) > 60) {
            table[row][column] = was;
            return FULL;
        }
        return was;
    }

    int about(int row, int column, int what) {
        switch (what) {
            case 0: return hasRow(row) && hasColumn(column) ? table[row][column] : UNKNOWN;
            case 1: return hasRow(row) ? rowSum(table, row) : UNKNOWN;
            case 2: return hasColumn(column) ? columnSum(table, column) : UNKNOWN;
            case 3: return inAll(table);
            default: return OUTSIDE;
        }
    }

    int sample(int which, int v) {
        if (which < 0 || which > 1) {
            return UNKNOWN;
        }
        if (v < -1000 || v > 1000) {
            return OUTSIDE;
        }
        List<Integer> s = which == 0 ? a : b;
        if (s.size() == 15) {
            return FULL;
        }
        s.add(v);
        return s.size();
    }

    int pair(int x, int y) {
        if (x < -1000 || x > 1000 || y < -1000 || y > 1000) {
            return OUTSIDE;
        }
        if (pairs.size() == 30) {
            return FULL;
        }
        pairs.add(new int[] {x, y});
        return pairs.size();
    }

    int clear(int which) {
        int had;
        switch (which) {
            case 0: had = a.size() + b.size(); a.clear(); b.clear(); return had;
            case 1: had = pairs.size(); pairs.clear(); return had;
            case 2: had = list.size(); list.clear(); return had;
            case 3: had = claimed.size(); claimed.clear(); return had;
            default: return UNKNOWN;
        }
    }

    private static BigInteger weight(int[][] t) {
        BigInteger up = BigInteger.ONE;
        BigInteger down = BigInteger.ONE;
        for (int r = 0; r < t.length; r++) {
            up = up.multiply(factorial(rowSum(t, r)));
            for (int n : t[r]) {
                down = down.multiply(factorial(n));
            }
        }
        for (int c = 0; c < t[0].length; c++) {
            up = up.multiply(factorial(columnSum(t, c)));
        }
        BigInteger[] q = up.divideAndRemainder(down);
        if (q[1].signum() != 0) {
            throw new IllegalStateException("a weight is no whole number");
        }
        return q[0];
    }

    /** All tables with the margins, cell by cell; each number is tried that the margins still leave. */
    private static void all(int[][] t, int[] rowLeft, int[] columnLeft, int at, List<int[][]> found) {
        if (found.size() > 20000) {
            return;
        }
        int columns = columnLeft.length;
        if (at == rowLeft.length * columns) {
            int[][] copy = new int[t.length][];
            for (int i = 0; i < t.length; i++) {
                copy[i] = t[i].clone();
            }
            found.add(copy);
            return;
        }
        int r = at / columns;
        int c = at % columns;
        int most = Math.min(rowLeft[r], columnLeft[c]);
        int behind = 0;
        for (int k = c + 1; k < columns; k++) {
            behind += columnLeft[k];
        }
        for (int n = 0; n <= most; n++) {
            if (rowLeft[r] - n > behind) {
                continue;
            }
            if (r == rowLeft.length - 1 && n != columnLeft[c]) {
                continue;
            }
            t[r][c] = n;
            rowLeft[r] -= n;
            columnLeft[c] -= n;
            all(t, rowLeft, columnLeft, at + 1, found);
            rowLeft[r] += n;
            columnLeft[c] += n;
        }
    }

    int tables() {
        int n = inAll(table);
        if (n == 0) {
            return NO;
        }
        int rows = table.length;
        int columns = table[0].length;
        int[] rowLeft = new int[rows];
        int[] columnLeft = new int[columns];
        for (int r = 0; r < rows; r++) {
            rowLeft[r] = rowSum(table, r);
        }
        for (int c = 0; c < columns; c++) {
            columnLeft[c] = columnSum(table, c);
        }
        List<int[][]> found = new ArrayList<>();
        all(new int[rows][columns], rowLeft, columnLeft, 0, found);
        if (found.size() > 20000) {
            return SPENT;
        }
        cases = found;
        seenWeight = weight(table);
        BigInteger far = BigInteger.ZERO, low = far, high = far, together = far;
        for (int[][] t : found) {
            BigInteger w = weight(t);
            together = together.add(w);
            if (w.compareTo(seenWeight) <= 0) {
                far = far.add(w);
            }
            if (t[0][0] <= table[0][0]) {
                low = low.add(w);
            }
            if (t[0][0] >= table[0][0]) {
                high = high.add(w);
            }
        }
        if (!together.equals(factorial(n))) {
            throw new IllegalStateException("the weights together are not the factorial of all in all");
        }
        test = 0;
        statistic = table[0][0];
        asked = n;
        chances = new BigInteger[][] {
            lowest(far, together), lowest(low, together), lowest(high, together), lowest(seenWeight, together)};
        return found.size();
    }

    private static int rankAmong(List<Integer> all, int v) {
        List<Integer> sorted = new ArrayList<>(all);
        Collections.sort(sorted);
        int first = sorted.indexOf(v) + 1;
        int last = sorted.lastIndexOf(v) + 1;
        return first + last;
    }

    private List<Integer> both() {
        List<Integer> all = new ArrayList<>(a);
        all.addAll(b);
        return all;
    }

    private List<Integer> sizes() {
        List<Integer> sizes = new ArrayList<>();
        for (int[] p : pairs) {
            if (p[0] != p[1]) {
                sizes.add(Math.abs(p[0] - p[1]));
            }
        }
        return sizes;
    }

    private void settle(int newTest, int seen, int howMany, long middleUp, long middleDown) {
        long far = 0, low = 0, high = 0, just = 0, all = 0;
        long gap = Math.abs(seen * middleDown - middleUp);
        for (Map.Entry<Integer, Long> e : histogram.entrySet()) {
            int s = e.getKey();
            long n = e.getValue();
            all += n;
            far += Math.abs(s * middleDown - middleUp) >= gap ? n : 0;
            low += s <= seen ? n : 0;
            high += s >= seen ? n : 0;
            just += s == seen ? n : 0;
        }
        test = newTest;
        statistic = seen;
        asked = howMany;
        chances = new BigInteger[][] {
            lowest(big(far), big(all)), lowest(big(low), big(all)),
            lowest(big(high), big(all)), lowest(big(just), big(all))};
    }

    int labels(int which) {
        if (which < 0 || which > 1) {
            return LOST;
        }
        if (a.isEmpty() || b.isEmpty()) {
            return LOST - 2;
        }
        List<Integer> all = both();
        int m = all.size();
        int seen = 0;
        long sum = 0;
        List<TreeMap<Integer, Long>> taken = new ArrayList<>();
        for (int k = 0; k <= a.size(); k++) {
            taken.add(new TreeMap<>());
        }
        taken.get(0).put(0, 1L);
        for (int i = 0; i < m; i++) {
            int score = which == 0 ? all.get(i) : rankAmong(all, all.get(i));
            sum += score;
            seen += i < a.size() ? score : 0;
            for (int k = a.size(); k > 0; k--) {
                for (Map.Entry<Integer, Long> e : taken.get(k - 1).entrySet()) {
                    taken.get(k).merge(e.getKey() + score, e.getValue(), Long::sum);
                }
            }
        }
        histogram = taken.get(a.size());
        settle(1 + which, seen, m, sum * a.size(), m);
        return seen;
    }

    int signs(int which) {
        if (which < 0 || which > 2) {
            return LOST;
        }
        List<Integer> sizes = sizes();
        if (sizes.isEmpty()) {
            return LOST - 2;
        }
        TreeMap<Integer, Long> sums = new TreeMap<>();
        sums.put(0, 1L);
        int seen = 0;
        long sum = 0;
        for (int[] p : pairs) {
            int d = p[0] - p[1];
            if (d == 0) {
                continue;
            }
            int score = which == 0 ? Math.abs(d) : which == 1 ? rankAmong(sizes, Math.abs(d)) : 1;
            seen += d > 0 ? score : 0;
            sum += score;
            TreeMap<Integer, Long> next = new TreeMap<>(sums);
            for (Map.Entry<Integer, Long> e : sums.entrySet()) {
                next.merge(e.getKey() + score, e.getValue(), Long::sum);
            }
            sums = next;
        }
        histogram = sums;
        settle(3 + which, seen, sizes.size(), sum, 2);
        return seen;
    }

    int rank(int which, int i) {
        if (which < 0 || which > 2 || i < 0) {
            return UNKNOWN;
        }
        if (which == 2) {
            if (i >= pairs.size()) {
                return UNKNOWN;
            }
            int d = pairs.get(i)[0] - pairs.get(i)[1];
            return d == 0 ? 0 : rankAmong(sizes(), Math.abs(d));
        }
        List<Integer> s = which == 0 ? a : b;
        return i >= s.size() ? UNKNOWN : rankAmong(both(), s.get(i));
    }

    int caseAt(int i, int row, int column) {
        if (cases.isEmpty()) {
            return STATE;
        }
        if (i < 0 || i >= cases.size()) {
            return UNKNOWN;
        }
        int[][] t = cases.get(i);
        if (row < 0 || row >= t.length || column < 0 || column >= t[0].length) {
            return UNKNOWN;
        }
        return t[row][column];
    }

    int weighs(int i) {
        if (cases.isEmpty()) {
            return -30;
        }
        return i < 0 || i >= cases.size() ? -10 : weight(cases.get(i)).compareTo(seenWeight);
    }

    private int refusal(int tail) {
        return test < 0 ? STATE : tail < 0 || tail > 3 ? UNKNOWN : 0;
    }

    int bits(int tail, int what) {
        if (refusal(tail) != 0) {
            return refusal(tail);
        }
        return what < 0 || what > 1 ? OUTSIDE : chances[tail][what].bitLength();
    }

    private static int word(BigInteger n, int k) {
        return k > 1000 ? 0 : n.shiftRight(16 * k).and(big(65535)).intValue();
    }

    int word(int tail, int what, int k) {
        if (refusal(tail) != 0) {
            return refusal(tail);
        }
        return what < 0 || what > 1 || k < 0 ? OUTSIDE : word(chances[tail][what], k);
    }

    int figure(int tail, int i) {
        if (refusal(tail) != 0) {
            return refusal(tail);
        }
        if (i < 0 || i > 60) {
            return OUTSIDE;
        }
        return BigInteger.TEN.pow(i).multiply(chances[tail][0]).divide(chances[tail][1]).mod(BigInteger.TEN).intValue();
    }

    private static boolean isLevel(int u, int v) {
        return 0 <= u && u <= 1000000 && 1 <= v && v <= 1000000;
    }

    int against(int tail, int u, int v) {
        if (refusal(tail) != 0) {
            return 10 * refusal(tail);
        }
        return isLevel(u, v) ? compare(chances[tail], new BigInteger[] {big(u), big(v)}) : -20;
    }

    private static int compare(BigInteger[] p, BigInteger[] q) {
        return p[0].multiply(q[1]).compareTo(q[0].multiply(p[1]));
    }

    int result(int what) {
        if (test < 0) {
            return LOST - 2;
        }
        return what == 0 ? test : what == 1 ? statistic : what == 2 ? asked : LOST - 1;
    }

    long ways(int s) {
        return test < 1 ? STATE : histogram.getOrDefault(s, 0L);
    }

    int note(int tail) {
        if (refusal(tail) != 0) {
            return refusal(tail);
        }
        if (list.size() == 12) {
            return FULL;
        }
        list.add(chances[tail]);
        return list.size();
    }

    private List<BigInteger[]> rejectedOnes(int u, int v) {
        List<Integer> order = new ArrayList<>();
        for (int i = 0; i < list.size(); i++) {
            order.add(i);
        }
        order.sort((i, j) -> compare(list.get(i), list.get(j)));
        List<BigInteger[]> gone = new ArrayList<>();
        int n = list.size();
        for (int k = 0; k < n; k++) {
            BigInteger[] p = list.get(order.get(k));
            if (compare(p, new BigInteger[] {big(u), big(v).multiply(big(n - k))}) > 0) {
                break;
            }
            gone.add(new BigInteger[] {big(order.get(k))});
        }
        return gone;
    }

    int rejected(int u, int v) {
        return isLevel(u, v) ? rejectedOnes(u, v).size() : OUTSIDE;
    }

    int isRejected(int i, int u, int v) {
        if (i < 0 || i >= list.size()) {
            return UNKNOWN;
        }
        if (!isLevel(u, v)) {
            return OUTSIDE;
        }
        for (BigInteger[] one : rejectedOnes(u, v)) {
            if (one[0].intValue() == i) {
                return 1;
            }
        }
        return 0;
    }

    int claim(int w) {
        if (w < 0 || w > 65535) {
            return OUTSIDE;
        }
        if (claimed.size() == 40) {
            return FULL;
        }
        claimed.add(w);
        return claimed.size();
    }

    /** The words that check() asks for, so that a test can claim them. */
    List<Integer> wordsDue(int tail) {
        List<Integer> due = new ArrayList<>();
        for (int what = 1; what >= 0; what--) {
            for (int k = 0; 16 * k < chances[tail][what].bitLength(); k++) {
                due.add(word(chances[tail][what], k));
            }
        }
        return due;
    }

    int check(int tail) {
        if (refusal(tail) != 0) {
            return 10 * refusal(tail);
        }
        List<Integer> due = wordsDue(tail);
        if (due.equals(claimed)) {
            return 1;
        }
        int i = 0;
        while (i < due.size() && i < claimed.size() && due.get(i).equals(claimed.get(i))) {
            i++;
        }
        return -100 - i;
    }

    int shift() {
        if (a.isEmpty() || b.isEmpty()) {
            return LOST - 2;
        }
        List<Integer> d = new ArrayList<>();
        for (int x : a) {
            for (int y : b) {
                d.add(x - y);
            }
        }
        Collections.sort(d);
        int n = d.size();
        return n % 2 == 1 ? 2 * d.get(n / 2) : d.get(n / 2 - 1) + d.get(n / 2);
    }

    int told(int what) {
        switch (what) {
            case 0: return a.size();
            case 1: return b.size();
            case 2: return pairs.size();
            case 3: return list.size();
            case 4: return claimed.size();
            case 5: return table.length;
            case 6: return table[0].length;
            case 7: return cases.size();
            default: return OUTSIDE;
        }
    }
}
