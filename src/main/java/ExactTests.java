/**
 * A bench for exact tests: tables with told margins, labels given to numbers in all ways, ranks with
 * ties, signs of pairs. Every chance is kept as a fraction of whole numbers in lowest terms.
 */
public final class ExactTests {
    public static final int UNKNOWN = -1, OUTSIDE = -2, STATE = -3, FULL = -4, NO = -5, NONE = -6, SPENT = -7;
    public static final int LOST = -1000000001;

    private static final int MOST_SIDE = 5;
    private static final int MOST_CELLS = 25;
    private static final int MOST_IN_ALL = 60;
    private static final int MOST_CASES = 20000;
    private static final int MOST_IN_SAMPLE = 15;
    private static final int MOST_PAIRS = 30;
    private static final int MOST_SIZE = 1000;
    private static final int MOST_CHANCES = 12;
    private static final int MOST_CLAIMED = 40;
    private static final int MOST_WORD = 65535;
    private static final int MOST_IN_LEVEL = 1000000;
    private static final int MOST_FIGURES = 60;
    /** Thirty differences of at most 2000 each: no STATISTIC is farther from 0. */
    private static final int MOST_STATISTIC = 60000;
    /** Halved so often, the 4001 differences that can be come down to one. */
    private static final int HALVINGS = 12;

    private static final int TAILS = 4;
    private static final int FAR = 0, LOW = 1, HIGH = 2, JUST = 3;
    private static final int TABLE_TEST = 0, LABEL_TEST = 1, FLIP_TEST = 3;

    private final Grid grid;
    private final Numbers sampleA;
    private final Numbers sampleB;
    /** Of PAIRS nothing is ever asked but the differences. */
    private final Numbers differences;
    private final Numbers claimed;
    private final Walk walk;
    private final Cases cases;
    private final Sums sums;
    private final Results results;
    private final Scale scale;
    private final Chances chances;

    public ExactTests() {
        grid = new Grid();
        sampleA = new Numbers(MOST_IN_SAMPLE);
        sampleB = new Numbers(MOST_IN_SAMPLE);
        differences = new Numbers(MOST_PAIRS);
        claimed = new Numbers(MOST_CLAIMED);
        walk = new Walk();
        cases = new Cases();
        sums = new Sums();
        results = new Results();
        scale = new Scale();
        chances = new Chances(scale);
    }

    // ---- 1 what is told

    public int table(int rows, int columns) {
        if (!within(rows, 1, MOST_SIDE) || !within(columns, 1, MOST_SIDE)) {
            return OUTSIDE;
        }
        grid.renew(rows, columns);
        return 1;
    }

    public int cell(int row, int column, int n) {
        if (!grid.hasRow(row) || !grid.hasColumn(column)) {
            return UNKNOWN;
        }
        if (!within(n, 0, MOST_IN_ALL)) {
            return OUTSIDE;
        }
        int was = grid.at(row, column);
        if (grid.inAll() - was + n > MOST_IN_ALL) {
            return FULL;
        }
        grid.put(row, column, n);
        return was;
    }

    public int about(int row, int column, int what) {
        if (!within(what, 0, 3)) {
            return OUTSIDE;
        }
        boolean rowMatters = what == 0 || what == 1;
        boolean columnMatters = what == 0 || what == 2;
        if (rowMatters && !grid.hasRow(row) || columnMatters && !grid.hasColumn(column)) {
            return UNKNOWN;
        }
        switch (what) {
            case 0:
                return grid.at(row, column);
            case 1:
                return grid.rowSum(row);
            case 2:
                return grid.columnSum(column);
            default:
                return grid.inAll();
        }
    }

    public int sample(int which, int v) {
        if (which != 0 && which != 1) {
            return UNKNOWN;
        }
        if (!within(v, -MOST_SIZE, MOST_SIZE)) {
            return OUTSIDE;
        }
        Numbers sample = which == 0 ? sampleA : sampleB;
        return sample.isFull() ? FULL : sample.add(v);
    }

    public int pair(int x, int y) {
        if (!within(x, -MOST_SIZE, MOST_SIZE) || !within(y, -MOST_SIZE, MOST_SIZE)) {
            return OUTSIDE;
        }
        return differences.isFull() ? FULL : differences.add(x - y);
    }

    public int clear(int which) {
        switch (which) {
            case 0:
                return sampleA.empty() + sampleB.empty();
            case 1:
                return differences.empty();
            case 2:
                return chances.empty();
            case 3:
                return claimed.empty();
            default:
                return UNKNOWN;
        }
    }

    // ---- 2 tests

    public int tables() {
        if (grid.inAll() == 0) {
            return NO;
        }
        int found = walk.countCases(grid);
        if (found > MOST_CASES) {
            return SPENT;
        }
        cases.renew(grid.rows(), grid.columns(), found);
        walk.weighCases(grid, cases);
        results.begin(TABLE_TEST, grid.at(0, 0), grid.inAll());
        results.chance(FAR).setWholes(walk.far, walk.all);
        results.chance(LOW).setWholes(walk.low, walk.all);
        results.chance(HIGH).setWholes(walk.high, walk.all);
        results.chance(JUST).setWholes(walk.seen, walk.all);
        return found;
    }

    public int labels(int which) {
        if (which != 0 && which != 1) {
            return LOST;
        }
        int taken = sampleA.size();
        int asked = taken + sampleB.size();
        if (taken == 0 || taken == asked) {
            return LOST - 2;
        }
        sums.beginTaking(taken, asked);
        int statistic = takeScores(sampleA, which);
        int together = statistic + takeScores(sampleB, which);
        results.begin(LABEL_TEST + which, statistic, asked);
        judge(statistic, together * taken, asked);
        return statistic;
    }

    public int signs(int which) {
        if (!within(which, 0, 2)) {
            return LOST;
        }
        int asked = differences.size() - differences.countOf(0);
        if (asked == 0) {
            return LOST - 2;
        }
        sums.beginSigning(asked);
        int statistic = 0;
        int together = 0;
        for (int i = 0; i < differences.size(); i++) {
            int difference = differences.get(i);
            if (difference != 0) {
                int score = scoreOfSize(Math.abs(difference), which);
                sums.take(score);
                together += score;
                statistic += difference > 0 ? score : 0;
            }
        }
        results.begin(FLIP_TEST + which, statistic, asked);
        judge(statistic, together, 2);
        return statistic;
    }

    public int rank(int which, int i) {
        if (which == 2) {
            return differences.has(i) ? rankOfSize(Math.abs(differences.get(i))) : UNKNOWN;
        }
        if (which != 0 && which != 1) {
            return UNKNOWN;
        }
        Numbers sample = which == 0 ? sampleA : sampleB;
        return sample.has(i) ? rankOfNumber(sample.get(i)) : UNKNOWN;
    }

    public int caseAt(int i, int row, int column) {
        if (cases.count() == 0) {
            return STATE;
        }
        if (!cases.has(i) || !cases.hasCell(row, column)) {
            return UNKNOWN;
        }
        return cases.numberAt(i, row, column);
    }

    public int weighs(int i) {
        if (cases.count() == 0) {
            return 10 * STATE;
        }
        return cases.has(i) ? cases.orderOf(i) : 10 * UNKNOWN;
    }

    // ---- 3 results

    public int bits(int tail, int what) {
        int refused = refusal(tail);
        if (refused != 0) {
            return refused;
        }
        if (what != 0 && what != 1) {
            return OUTSIDE;
        }
        return results.chance(tail).part(what).bitLength();
    }

    public int word(int tail, int what, int k) {
        int refused = refusal(tail);
        if (refused != 0) {
            return refused;
        }
        if (what != 0 && what != 1 || k < 0) {
            return OUTSIDE;
        }
        return results.chance(tail).part(what).sixteenBits(k);
    }

    public int figure(int tail, int i) {
        int refused = refusal(tail);
        if (refused != 0) {
            return refused;
        }
        return within(i, 0, MOST_FIGURES) ? scale.figureOf(results.chance(tail), i) : OUTSIDE;
    }

    public int against(int tail, int u, int v) {
        int refused = refusal(tail);
        if (refused != 0) {
            return 10 * refused;
        }
        return isLevel(u, v) ? scale.compareToLevel(results.chance(tail), u, v) : 10 * OUTSIDE;
    }

    public int result(int what) {
        if (!results.areThere()) {
            return LOST - 2;
        }
        switch (what) {
            case 0:
                return results.test();
            case 1:
                return results.statistic();
            case 2:
                return results.asked();
            default:
                return LOST - 1;
        }
    }

    public long ways(int statistic) {
        if (!results.areThere() || results.test() == TABLE_TEST) {
            return STATE;
        }
        return within(statistic, -MOST_STATISTIC, MOST_STATISTIC) ? sums.exactly(statistic) : 0;
    }

    // ---- 4 lists, claims, shifts

    public int note(int tail) {
        int refused = refusal(tail);
        if (refused != 0) {
            return refused;
        }
        return chances.isFull() ? FULL : chances.add(results.chance(tail));
    }

    public int rejected(int u, int v) {
        return isLevel(u, v) ? chances.countRejected(u, v) : OUTSIDE;
    }

    public int isRejected(int i, int u, int v) {
        if (!chances.has(i)) {
            return UNKNOWN;
        }
        if (!isLevel(u, v)) {
            return OUTSIDE;
        }
        return chances.placeOf(i) < chances.countRejected(u, v) ? 1 : 0;
    }

    public int claim(int w) {
        if (!within(w, 0, MOST_WORD)) {
            return OUTSIDE;
        }
        return claimed.isFull() ? FULL : claimed.add(w);
    }

    public int check(int tail) {
        int refused = refusal(tail);
        if (refused != 0) {
            return 10 * refused;
        }
        Fraction chance = results.chance(tail);
        int due = chance.countWords();
        int shared = Math.min(due, claimed.size());
        for (int i = 0; i < shared; i++) {
            if (claimed.get(i) != chance.wordInTurn(i)) {
                return -100 - i;
            }
        }
        return due == claimed.size() ? 1 : -100 - shared;
    }

    public int shift() {
        int n = sampleA.size() * sampleB.size();
        if (n == 0) {
            return LOST - 2;
        }
        return shiftInPlace((n + 1) / 2) + shiftInPlace(n / 2 + 1);
    }

    public int told(int what) {
        switch (what) {
            case 0:
                return sampleA.size();
            case 1:
                return sampleB.size();
            case 2:
                return differences.size();
            case 3:
                return chances.size();
            case 4:
                return claimed.size();
            case 5:
                return grid.rows();
            case 6:
                return grid.columns();
            case 7:
                return cases.count();
            default:
                return OUTSIDE;
        }
    }

    // ---- what the calls share

    private static boolean within(int v, int least, int most) {
        return v >= least && v <= most;
    }

    private static boolean isLevel(int u, int v) {
        return within(u, 0, MOST_IN_LEVEL) && within(v, 1, MOST_IN_LEVEL);
    }

    /** Why a chance cannot be read, or 0. Without RESULTS no tail is looked at. */
    private int refusal(int tail) {
        if (!results.areThere()) {
            return STATE;
        }
        return within(tail, 0, TAILS - 1) ? 0 : UNKNOWN;
    }

    private int takeScores(Numbers sample, int which) {
        int together = 0;
        for (int i = 0; i < sample.size(); i++) {
            int number = sample.get(i);
            int score = which == 0 ? number : rankOfNumber(number);
            sums.take(score);
            together += score;
        }
        return together;
    }

    private int scoreOfSize(int size, int which) {
        if (which == 0) {
            return size;
        }
        return which == 1 ? rankOfSize(size) : 1;
    }

    private int rankOfNumber(int number) {
        int below = sampleA.countBelow(number) + sampleB.countBelow(number);
        int like = sampleA.countOf(number) + sampleB.countOf(number);
        return twiceMeanPlace(below, like);
    }

    private int rankOfSize(int size) {
        if (size == 0) {
            return 0;
        }
        // Differences of a lesser size stand between -size and size; those of 0 have no place.
        int inside = differences.countBelow(size) - differences.countBelow(1 - size);
        int below = inside - differences.countOf(0);
        int like = differences.countOf(size) + differences.countOf(-size);
        return twiceMeanPlace(below, like);
    }

    /** Like numbers stand at the places below + 1 to below + like. */
    private static int twiceMeanPlace(int below, int like) {
        return 2 * below + like + 1;
    }

    /** All four chances of a test over sums; its middle is the fraction middle / parts. */
    private void judge(int statistic, int middle, int parts) {
        long all = sums.countAll();
        long low = sums.upTo(statistic);
        long just = sums.exactly(statistic);
        long high = all - low + just;
        results.chance(LOW).setLongs(low, all);
        results.chance(HIGH).setLongs(high, all);
        results.chance(JUST).setLongs(just, all);
        int gap = parts * statistic - middle;
        long far = all;
        if (gap < 0 && parts > 0) {
            int mirrored = -Math.floorDiv(gap - middle, parts);
            far = low + all - sums.upTo(mirrored - 1);
        } else if (gap > 0 && parts > 0) {
            int mirrored = Math.floorDiv(middle - gap, parts);
            far = high + sums.upTo(mirrored);
        }
        results.chance(FAR).setLongs(far, all);
    }

    /** The difference of SAMPLES at a place (from 1 on) in order, found by halving: no row is needed. */
    private int shiftInPlace(int place) {
        int least = -2 * MOST_SIZE;
        int most = 2 * MOST_SIZE;
        for (int step = 0; step < HALVINGS && least < most; step++) {
            int half = (least + most) >> 1;
            if (countShiftsUpTo(half) >= place) {
                most = half;
            } else {
                least = half + 1;
            }
        }
        return least;
    }

    private int countShiftsUpTo(int limit) {
        int count = 0;
        for (int i = 0; i < sampleA.size(); i++) {
            // a - b <= limit, as often as b is not below a - limit
            count += sampleB.size() - sampleB.countBelow(sampleA.get(i) - limit);
        }
        return count;
    }

    /** Numbers in the order told, up to a limit. */
    private static final class Numbers {
        private final int[] values;
        private int size;

        Numbers(int most) {
            values = new int[Math.max(0, most)];
        }

        int size() {
            return size;
        }

        boolean isFull() {
            return size >= values.length;
        }

        boolean has(int i) {
            return i >= 0 && i < size;
        }

        int get(int i) {
            return has(i) ? values[i] : 0;
        }

        int add(int v) {
            if (!isFull()) {
                values[size] = v;
                size++;
            }
            return size;
        }

        int empty() {
            int had = size;
            size = 0;
            return had;
        }

        int countOf(int v) {
            int count = 0;
            for (int i = 0; i < size; i++) {
                count += values[i] == v ? 1 : 0;
            }
            return count;
        }

        int countBelow(int v) {
            int count = 0;
            for (int i = 0; i < size; i++) {
                count += values[i] < v ? 1 : 0;
            }
            return count;
        }
    }

    /** THE TABLE. Its rows stand MOST_SIDE apart, whatever its columns. */
    private static final class Grid {
        private final int[] cells = new int[MOST_CELLS];
        private int rows = 1;
        private int columns = 1;

        void renew(int newRows, int newColumns) {
            rows = newRows;
            columns = newColumns;
            for (int i = 0; i < cells.length; i++) {
                cells[i] = 0;
            }
        }

        int rows() {
            return rows;
        }

        int columns() {
            return columns;
        }

        boolean hasRow(int row) {
            return row >= 0 && row < rows;
        }

        boolean hasColumn(int column) {
            return column >= 0 && column < columns;
        }

        int at(int row, int column) {
            return hasRow(row) && hasColumn(column) ? cells[row * MOST_SIDE + column] : 0;
        }

        void put(int row, int column, int n) {
            if (hasRow(row) && hasColumn(column)) {
                cells[row * MOST_SIDE + column] = n;
            }
        }

        int rowSum(int row) {
            int sum = 0;
            for (int column = 0; column < columns; column++) {
                sum += at(row, column);
            }
            return sum;
        }

        int columnSum(int column) {
            int sum = 0;
            for (int row = 0; row < rows; row++) {
                sum += at(row, column);
            }
            return sum;
        }

        int inAll() {
            int sum = 0;
            for (int i = 0; i < cells.length; i++) {
                sum += cells[i];
            }
            return sum;
        }
    }

    /**
     * A whole number, not below 0, in limbs of 32 bits, the lowest first. The limbs from size on are
     * all 0. The greatest that is ever held is a product of two weights, each below 5^60 (140 bits).
     */
    private static final class Whole {
        private static final int ROOM = 12;
        private static final long MASK = 0xFFFFFFFFL;

        private final long[] limbs = new long[ROOM];
        private int size;

        void set(long v) {
            empty();
            limbs[0] = v & MASK;
            limbs[1] = v >>> 32;
            trim(2);
        }

        void copy(Whole other) {
            empty();
            size = other.size;
            for (int i = 0; i < size; i++) {
                limbs[i] = other.limbs[i];
            }
        }

        int compare(Whole other) {
            if (size != other.size) {
                return size < other.size ? -1 : 1;
            }
            for (int i = size - 1; i >= 0; i--) {
                if (limbs[i] != other.limbs[i]) {
                    return limbs[i] < other.limbs[i] ? -1 : 1;
                }
            }
            return 0;
        }

        void add(Whole other) {
            int length = Math.max(size, other.size);
            long carry = 0;
            for (int i = 0; i < length; i++) {
                long sum = limbs[i] + other.limbs[i] + carry;
                limbs[i] = sum & MASK;
                carry = sum >>> 32;
            }
            if (carry != 0 && length < ROOM) {
                limbs[length] = carry;
                length++;
            }
            size = length;
        }

        /** Takes away a number that is not above this one. */
        void subtract(Whole other) {
            long borrow = 0;
            for (int i = 0; i < size; i++) {
                long rest = limbs[i] - other.limbs[i] - borrow;
                limbs[i] = rest & MASK;
                borrow = rest < 0 ? 1 : 0;
            }
            trim(size);
        }

        /** Becomes from times factor; from is another object. */
        void setProduct(Whole from, long factor) {
            empty();
            addTimes(from, factor & MASK, 0);
            long high = factor >>> 32;
            if (high != 0) {
                addTimes(from, high, 1);
            }
            trim(from.size + 2);
        }

        /** Becomes one times other, both other objects. */
        void setProductOf(Whole one, Whole other) {
            empty();
            for (int i = 0; i < other.size; i++) {
                addTimes(one, other.limbs[i], i);
            }
            trim(one.size + other.size);
        }

        /** A product of two limbs and two limbs more just fit 64 bits, read without a sign. */
        private void addTimes(Whole from, long limb, int at) {
            int end = Math.min(from.size, ROOM - at);
            long carry = 0;
            for (int i = 0; i < end; i++) {
                long sum = from.limbs[i] * limb + limbs[i + at] + carry;
                limbs[i + at] = sum & MASK;
                carry = sum >>> 32;
            }
            if (end + at < ROOM) {
                limbs[end + at] = carry;
            }
        }

        int remainder(int divisor) {
            if (divisor <= 0) {
                return 0;
            }
            long rest = 0;
            for (int i = size - 1; i >= 0; i--) {
                rest = (rest << 32 | limbs[i]) % divisor;
            }
            return (int) rest;
        }

        void divide(int divisor) {
            if (divisor <= 0) {
                return;
            }
            long rest = 0;
            for (int i = size - 1; i >= 0; i--) {
                long part = rest << 32 | limbs[i];
                limbs[i] = part / divisor;
                rest = part % divisor;
            }
            trim(size);
        }

        int bitLength() {
            return size == 0 ? 0 : 32 * size - Long.numberOfLeadingZeros(limbs[size - 1]) + 32;
        }

        int countWords() {
            return (bitLength() + 15) / 16;
        }

        int sixteenBits(int k) {
            int limb = k >> 1;
            if (limb < 0 || limb >= size) {
                return 0;
            }
            return (int) (limbs[limb] >>> 16 * (k & 1)) & MOST_WORD;
        }

        private void empty() {
            for (int i = 0; i < size; i++) {
                limbs[i] = 0;
            }
            size = 0;
        }

        private void trim(int length) {
            size = Math.min(length, ROOM);
            while (size > 0 && limbs[size - 1] == 0) {
                size--;
            }
        }
    }

    /** A chance in lowest terms. */
    private static final class Fraction {
        /**
         * Lower numbers divide a factorial of at most 60 or a power of 2, so that no other prime can
         * stand in both numbers.
         */
        private static final int[] PRIMES = {2, 3, 5, 7, 11, 13, 17, 19, 23, 29, 31, 37, 41, 43, 47, 53, 59};
        private static final int MOST_BITS = 384;

        private final Whole upper = new Whole();
        private final Whole lower = new Whole();

        void setWholes(Whole newUpper, Whole newLower) {
            upper.copy(newUpper);
            lower.copy(newLower);
            reduce();
        }

        void setLongs(long newUpper, long newLower) {
            upper.set(newUpper);
            lower.set(newLower);
            reduce();
        }

        void copy(Fraction other) {
            upper.copy(other.upper);
            lower.copy(other.lower);
        }

        Whole part(int what) {
            return what == 0 ? upper : lower;
        }

        int countWords() {
            return lower.countWords() + upper.countWords();
        }

        /** The words as they are claimed: those of the lower number, then those of the upper one. */
        int wordInTurn(int i) {
            int first = lower.countWords();
            return i < first ? lower.sixteenBits(i) : upper.sixteenBits(i - first);
        }

        private void reduce() {
            for (int i = 0; i < PRIMES.length; i++) {
                int prime = PRIMES[i];
                for (int k = 0; k < MOST_BITS && isCommon(prime); k++) {
                    upper.divide(prime);
                    lower.divide(prime);
                }
            }
        }

        private boolean isCommon(int prime) {
            return upper.remainder(prime) == 0 && lower.remainder(prime) == 0;
        }
    }

    /** Holds chances against each other and against levels, and reads their figures. */
    private static final class Scale {
        private final Whole left = new Whole();
        private final Whole right = new Whole();

        int compareChances(Fraction one, Fraction other) {
            left.setProductOf(one.upper, other.lower);
            right.setProductOf(other.upper, one.lower);
            return left.compare(right);
        }

        int compareToLevel(Fraction chance, long u, long v) {
            left.setProduct(chance.upper, v);
            right.setProduct(chance.lower, u);
            return left.compare(right);
        }

        int figureOf(Fraction chance, int i) {
            Whole rest = left;
            rest.copy(chance.upper);
            int figure = takeOut(rest, chance.lower);
            for (int k = 0; k < i; k++) {
                right.copy(rest);
                rest.setProduct(right, 10);
                figure = takeOut(rest, chance.lower);
            }
            return figure;
        }

        private static int takeOut(Whole rest, Whole divisor) {
            int times = 0;
            while (times < 9 && rest.compare(divisor) >= 0) {
                rest.subtract(divisor);
                times++;
            }
            return times;
        }
    }

    /** RESULTS of the latest test that went. */
    private static final class Results {
        private final Fraction[] chances = new Fraction[TAILS];
        private boolean there;
        private int test;
        private int statistic;
        private int asked;

        Results() {
            for (int i = 0; i < TAILS; i++) {
                chances[i] = new Fraction();
            }
        }

        void begin(int newTest, int newStatistic, int newAsked) {
            there = true;
            test = newTest;
            statistic = newStatistic;
            asked = newAsked;
        }

        boolean areThere() {
            return there;
        }

        int test() {
            return test;
        }

        int statistic() {
            return statistic;
        }

        int asked() {
            return asked;
        }

        Fraction chance(int tail) {
            return chances[tail >= 0 && tail < TAILS ? tail : 0];
        }
    }

    /** THE LIST, with the order of its chances kept beside it. */
    private static final class Chances {
        private final Fraction[] noted = new Fraction[MOST_CHANCES];
        private final int[] order = new int[MOST_CHANCES];
        private final Scale scale;
        private int size;

        Chances(Scale shared) {
            scale = shared;
            for (int i = 0; i < MOST_CHANCES; i++) {
                noted[i] = new Fraction();
            }
        }

        int size() {
            return size;
        }

        boolean isFull() {
            return size >= MOST_CHANCES;
        }

        boolean has(int i) {
            return i >= 0 && i < size;
        }

        int empty() {
            int had = size;
            size = 0;
            return had;
        }

        int add(Fraction chance) {
            if (isFull()) {
                return size;
            }
            noted[size].copy(chance);
            int place = size;
            while (place > 0 && scale.compareChances(chance, noted[order[place - 1]]) < 0) {
                order[place] = order[place - 1];
                place--;
            }
            order[place] = size;
            size++;
            return size;
        }

        int placeOf(int i) {
            for (int place = 0; place < size; place++) {
                if (order[place] == i) {
                    return place;
                }
            }
            return size;
        }

        int countRejected(int u, int v) {
            for (int k = 0; k < size; k++) {
                long steps = size - k;
                if (scale.compareToLevel(noted[order[k]], u, v * steps) > 0) {
                    return k;
                }
            }
            return size;
        }
    }

    /** The CASES of the latest tables() that went: ten numbers of six bits to a long. */
    private static final class Cases {
        private static final int IN_LONG = 10;
        private static final int ORDER_BIT = 60;

        private long[] kept = new long[0];
        private int rows;
        private int columns;
        private int stride;
        private int count;

        /** Makes room for some CASES; they then come by keep, as many as told here. */
        void renew(int newRows, int newColumns, int toCome) {
            rows = newRows;
            columns = newColumns;
            stride = (rows * columns + IN_LONG - 1) / IN_LONG;
            count = 0;
            int need = stride * toCome;
            if (need > kept.length) {
                kept = new long[Math.max(need, 2 * kept.length)];
            }
        }

        void keep(int[] cells, int order) {
            int start = count * stride;
            if (start + stride > kept.length || rows * columns > cells.length) {
                return;
            }
            int at = 0;
            for (int i = 0; i < stride; i++) {
                int end = Math.min(rows * columns, at + IN_LONG);
                long packed = 0;
                int bit = 0;
                for (; at < end; at++) {
                    packed |= (long) cells[at] << bit;
                    bit += 6;
                }
                kept[start + i] = packed;
            }
            // The ten numbers of the first long leave its bits from 60 on free.
            kept[start] |= (long) (order + 1) << ORDER_BIT;
            count++;
        }

        int count() {
            return count;
        }

        boolean has(int i) {
            return i >= 0 && i < count;
        }

        boolean hasCell(int row, int column) {
            return row >= 0 && row < rows && column >= 0 && column < columns;
        }

        int numberAt(int i, int row, int column) {
            if (!has(i) || !hasCell(row, column)) {
                return 0;
            }
            int at = row * columns + column;
            return (int) (kept[i * stride + at / IN_LONG] >> 6 * (at % IN_LONG)) & 63;
        }

        int orderOf(int i) {
            return has(i) ? (int) (kept[i * stride] >> ORDER_BIT) - 1 : 0;
        }
    }

    /**
     * Goes through all tables with the margins of THE TABLE, cell by cell, each from its least number
     * on, so that they come in order. Only numbers that leave the row enough room behind them are
     * tried: no way is a dead end. Weights are told without the factorials of the row sums, which all
     * of them share: a table weighs what its columns' numbers can be dealt out to the rows in ways,
     * and all together weigh what all numbers can be dealt out in ways.
     */
    private static final class Walk {
        /** How many ways there are to take k out of n, row by row: all of them fit a long. */
        private final long[] triangle = new long[(MOST_IN_ALL + 1) * (MOST_IN_ALL + 2) / 2];
        private final int[] rowSums = new int[MOST_SIDE];
        private final int[] columnLeft = new int[MOST_SIDE];
        private final int[] cells = new int[MOST_CELLS];
        /** At a place in the table: what the cells ahead of it weigh. */
        private final Whole[] weights = new Whole[MOST_CELLS + 1];
        private int rows;
        private int columns;
        private int corner;
        private int found;
        private Cases cases;
        final Whole all = new Whole();
        final Whole seen = new Whole();
        final Whole far = new Whole();
        final Whole low = new Whole();
        final Whole high = new Whole();

        Walk() {
            for (int i = 0; i <= MOST_CELLS; i++) {
                weights[i] = new Whole();
            }
            int at = 0;
            for (int n = 0; n <= MOST_IN_ALL; n++) {
                for (int k = 0; k <= n; k++) {
                    boolean edge = k == 0 || k == n;
                    triangle[at] = edge ? 1 : triangle[at - n - 1] + triangle[at - n];
                    at++;
                }
            }
        }

        private long choose(int n, int k) {
            return k >= 0 && k <= n && n <= MOST_IN_ALL ? triangle[n * (n + 1) / 2 + k] : 0;
        }

        /** How many CASES there are; some number above MOST_CASES, if there are more than that. */
        int countCases(Grid grid) {
            begin(grid);
            found = 0;
            countRow(0);
            return found;
        }

        void weighCases(Grid grid, Cases kept) {
            begin(grid);
            weighAll(grid.inAll());
            weighSeen(grid);
            begin(grid);
            far.set(0);
            low.set(0);
            high.set(0);
            weights[0].set(1);
            cases = kept;
            fillRow(0);
        }

        private void begin(Grid grid) {
            // The walk goes as deep as there are cells: no deeper than the rows made for it.
            rows = Math.min(grid.rows(), MOST_SIDE);
            columns = Math.min(grid.columns(), MOST_SIDE);
            corner = grid.at(0, 0);
            for (int row = 0; row < rows; row++) {
                rowSums[row] = grid.rowSum(row);
            }
            for (int column = 0; column < columns; column++) {
                columnLeft[column] = grid.columnSum(column);
            }
        }

        private void weighAll(int inAll) {
            int left = inAll;
            all.set(1);
            for (int row = 0; row < rows; row++) {
                weights[0].copy(all);
                all.setProduct(weights[0], choose(left, rowSums[row]));
                left -= rowSums[row];
            }
        }

        private void weighSeen(Grid grid) {
            seen.set(1);
            for (int row = 0; row < rows; row++) {
                for (int column = 0; column < columns; column++) {
                    int n = grid.at(row, column);
                    weights[0].copy(seen);
                    seen.setProduct(weights[0], choose(columnLeft[column], n));
                    columnLeft[column] -= n;
                }
            }
        }

        private int sumOfColumnsLeft() {
            int sum = 0;
            for (int column = 0; column < columns; column++) {
                sum += columnLeft[column];
            }
            return sum;
        }

        private void countRow(int row) {
            if (row + 1 < rows) {
                countCell(row, 0, rowSums[row], sumOfColumnsLeft());
            } else {
                found++;
            }
        }

        /** Left is what the row still has to give, room what its columns can take from here on. */
        private void countCell(int row, int column, int left, int room) {
            int free = columnLeft[column];
            int behind = room - free;
            int least = Math.max(0, left - behind);
            int most = Math.min(left, free);
            if (row + 2 == rows && column + 2 == columns) {
                // The last number that is free: each leads to just one table.
                found += most - least + 1;
                return;
            }
            for (int n = least; n <= most && found <= MOST_CASES; n++) {
                columnLeft[column] = free - n;
                if (column + 1 < columns) {
                    countCell(row, column + 1, left - n, behind);
                } else {
                    countRow(row + 1);
                }
            }
            columnLeft[column] = free;
        }

        private void fillRow(int row) {
            if (row + 1 < rows) {
                fillCell(row, 0, rowSums[row], sumOfColumnsLeft());
            } else {
                fillLastRow(row * columns);
            }
        }

        private void fillCell(int row, int column, int left, int room) {
            int at = row * columns + column;
            int free = columnLeft[column];
            int behind = room - free;
            int most = Math.min(left, free);
            for (int n = Math.max(0, left - behind); n <= most; n++) {
                cells[at] = n;
                columnLeft[column] = free - n;
                weights[at + 1].setProduct(weights[at], choose(free, n));
                if (column + 1 < columns) {
                    fillCell(row, column + 1, left - n, behind);
                } else {
                    fillRow(row + 1);
                }
            }
            columnLeft[column] = free;
        }

        private void fillLastRow(int at) {
            for (int column = 0; column < columns; column++) {
                cells[at + column] = columnLeft[column];
            }
            Whole weight = weights[at];
            int order = weight.compare(seen);
            if (order <= 0) {
                far.add(weight);
            }
            if (cells[0] <= corner) {
                low.add(weight);
            }
            if (cells[0] >= corner) {
                high.add(weight);
            }
            if (cases != null) {
                cases.keep(cells, order);
            }
        }
    }

    /** The sums of all ways to take some out of up to fifteen numbers, in order, and how often each comes. */
    private static final class HalfSums {
        private static final int MOST = 32768;

        private int[] sums = new int[64];
        private int[] times = new int[64];
        private int size;

        void begin() {
            sums[0] = 0;
            times[0] = 1;
            size = 1;
        }

        /**
         * A number more, above 0. The sums without it and those with it are merged from the greatest
         * down into the upper end of the row: what is written there never meets what is still to be
         * read, since those with it are always ahead.
         */
        void take(int number) {
            int end = 2 * size;
            if (end > MOST || number <= 0) {
                return;
            }
            makeRoom(end);
            int without = size - 1;
            int with = size - 1;
            int at = end;
            for (int left = end; left > 0 && without >= 0; left--) {
                boolean takesWith = with >= 0 && sums[with] + number >= sums[without];
                int from = takesWith ? with : without;
                int sum = takesWith ? sums[from] + number : sums[from];
                int often = times[from];
                if (takesWith) {
                    with--;
                } else {
                    without--;
                }
                if (at < end && sums[at] == sum) {
                    times[at] += often;
                } else {
                    at--;
                    sums[at] = sum;
                    times[at] = often;
                }
            }
            size = end - at;
            System.arraycopy(sums, at, sums, 0, size);
            System.arraycopy(times, at, times, 0, size);
        }

        /** Steps of eight: the rows that are left behind stay small beside the one that is used. */
        private void makeRoom(int need) {
            if (need <= sums.length) {
                return;
            }
            int length = Math.max(need, Math.min(MOST, 8 * sums.length));
            int[] longerSums = new int[length];
            int[] longerTimes = new int[length];
            System.arraycopy(sums, 0, longerSums, 0, size);
            System.arraycopy(times, 0, longerTimes, 0, size);
            sums = longerSums;
            times = longerTimes;
        }
    }

    /**
     * The STATISTICS of all CASES of a test by labels or signs, as sums of two halves of its numbers.
     * Where just so many numbers are taken, each stands with MARK on top, so that the sums of as many
     * numbers stand together, far from the others.
     */
    private static final class Sums {
        private static final int MARK = 1 << 17;

        private final HalfSums one = new HalfSums();
        private final HalfSums other = new HalfSums();
        private boolean oneIsNext;
        private int mark;
        /** Where the STATISTIC 0 stands. */
        private int offset;
        /** How many ways take fewer numbers than are to be taken. */
        private long ahead;
        private long all;

        void beginTaking(int taken, int outOf) {
            begin();
            mark = MARK;
            offset = taken * MARK;
            ahead = 0;
            all = 1;
            for (int k = 0; k < taken; k++) {
                // All is here how many ways take k numbers; the next is a whole number again.
                ahead += all;
                all = all * (outOf - k) / (k + 1);
            }
        }

        void beginSigning(int howMany) {
            begin();
            mark = 0;
            offset = 0;
            ahead = 0;
            all = 1L << howMany;
        }

        private void begin() {
            one.begin();
            other.begin();
            oneIsNext = true;
        }

        void take(int score) {
            HalfSums half = oneIsNext ? one : other;
            half.take(score + mark);
            oneIsNext = !oneIsNext;
        }

        long countAll() {
            return all;
        }

        /** How many CASES have a STATISTIC that is not above this one. */
        long upTo(int statistic) {
            int target = offset + statistic;
            int j = other.size - 1;
            long open = 0;
            for (int k = 0; k <= j; k++) {
                open += other.times[k];
            }
            long count = 0;
            for (int i = 0; i < one.size && j >= 0; i++) {
                int rest = target - one.sums[i];
                while (j >= 0 && other.sums[j] > rest) {
                    open -= other.times[j];
                    j--;
                }
                count += one.times[i] * open;
            }
            return count - ahead;
        }

        /** How many CASES have just this STATISTIC. */
        long exactly(int statistic) {
            int target = offset + statistic;
            int i = 0;
            int j = other.size - 1;
            long count = 0;
            for (int left = one.size + other.size; left > 0 && i < one.size && j >= 0; left--) {
                int sum = one.sums[i] + other.sums[j];
                if (sum == target) {
                    count += (long) one.times[i] * other.times[j];
                }
                if (sum <= target) {
                    i++;
                } else {
                    j--;
                }
            }
            return count;
        }
    }
}
