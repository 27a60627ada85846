import java.math.BigInteger;

/**
 * The sentences of promises 1 to 26 that name a boundary, each with a test of its own: the least and
 * the greatest that a call takes, empty and full. What calls refuse is looked at in RefusedCallsTest.
 */
public final class EdgesOfPromisesTest {
    private static final int LEAST = Bench.LEAST, GREATEST = Bench.GREATEST;
    private static final int NO_SUM = -1000000003;
    private static final Due due = new Due();

    public static void main(String[] args) {
        newObject();
        tableAnew();
        cellWas();
        aboutWhatMatters();
        sampleGrows();
        pairGrows();
        clearEmpties();
        clearsOnlyThat();
        casesFromOneTo20000();
        labelsFromOneTo15();
        signsFromOneTo30();
        rankAtTheEnds();
        caseAtTheEnds();
        weighsAtTheEnds();
        bitsOfPowers();
        wordsAndTheirEnd();
        longNumbers();
        figuresToSixty();
        againstTheEndsOfLevels();
        resultOfEachTest();
        waysOfAnything();
        noteUpToTwelve();
        rejectedAtTheEnds();
        isRejectedAtTheEnds();
        claimUpToForty();
        checkWordByWord();
        shiftOfOneAndOne();
        toldOfAll();
        due.close();
    }

    private static void newObject() {
        ExactTests x = new ExactTests();
        due.sentence("Promise 1", "THE TABLE has one row, one column, a 0");
        due.is("rows", x.told(5), 1);
        due.is("columns", x.told(6), 1);
        for (int what = 0; what <= 3; what++) {
            due.is("about(0, 0, " + what + ")", x.about(0, 0, what), 0);
        }
        due.is("no second row", x.about(1, 0, 0), -1);
        due.is("no second column", x.about(0, 1, 0), -1);
        due.is("tables()", x.tables(), -5);
        due.sentence("Promise 1", "SAMPLES, PAIRS, THE LIST are empty");
        for (int what = 0; what <= 4; what++) {
            due.is("told(" + what + ")", x.told(what), 0);
        }
        for (int which = 0; which <= 3; which++) {
            due.is("clear(" + which + ")", x.clear(which), 0);
            due.is("rank(" + which + ", 0)", x.rank(which, 0), -1);
        }
        due.is("rejected(1000000, 1)", x.rejected(1000000, 1), 0);
        due.is("isRejected(0, 1, 1)", x.isRejected(0, 1, 1), -1);
        due.is("shift()", x.shift(), NO_SUM);
        due.sentence("Promise 1", "no RESULTS");
        for (int tail = 0; tail <= 3; tail++) {
            due.is("bits", x.bits(tail, 0), -3);
            due.is("note", x.note(tail), -3);
        }
        due.is("result(0)", x.result(0), NO_SUM);
        due.is("CASES kept", x.told(7), 0);
        due.is("caseAt(0, 0, 0)", x.caseAt(0, 0, 0), -3);
        ExactTests other = new ExactTests();
        x.cell(0, 0, 7);
        x.tables();
        due.is("another object has none of these", other.result(0), NO_SUM);
        due.is("another object's table", other.about(0, 0, 0), 0);
    }

    private static void tableAnew() {
        due.sentence("Promise 2", "THE TABLE anew: rows and columns, all 0: 1");
        ExactTests x = new ExactTests();
        int[][] shapes = {{1, 1}, {5, 5}, {5, 5}, {1, 5}, {5, 1}, {5, 5}, {2, 3}, {3, 2}, {1, 1}, {5, 5}};
        for (int[] shape : shapes) {
            String name = "table(" + shape[0] + ", " + shape[1] + ")";
            due.is(name, x.table(shape[0], shape[1]), 1);
            due.is(name + " rows", x.told(5), shape[0]);
            due.is(name + " columns", x.told(6), shape[1]);
            due.is(name + " in all", x.about(0, 0, 3), 0);
            for (int i = 0; i < shape[0] * shape[1]; i++) {
                due.is(name + " has a 0", x.about(i / shape[1], i % shape[1], 0), 0);
            }
            due.is("room for 59", x.cell(shape[0] - 1, shape[1] - 1, 59), 0);
            due.is("and one", x.cell(0, 0, shape[0] * shape[1] == 1 ? 60 : 1), shape[0] * shape[1] == 1 ? 59 : 0);
            due.is("60 in all", x.about(0, 0, 3), 60);
        }
    }

    private static void cellWas() {
        due.sentence("Promise 3", "A number of THE TABLE: which it was");
        ExactTests x = new ExactTests();
        x.table(5, 5);
        int[] ends = {0, 4};
        for (int row : ends) {
            for (int column : ends) {
                due.is("0 before", x.cell(row, column, 60), 0);
                due.is("60 again", x.cell(row, column, 60), 60);
                due.is("59", x.cell(row, column, 59), 60);
                due.is("back to 0", x.cell(row, column, 0), 59);
                due.is("0 again", x.cell(row, column, 0), 0);
            }
        }
    }

    private static void aboutWhatMatters() {
        ExactTests x = new ExactTests();
        Bench.fill(x, 2, 3, 1, 2, 3, 10, 20, 24);
        due.sentence("Promise 4", "A number of THE TABLE (what = 0)");
        due.is("first", x.about(0, 0, 0), 1);
        due.is("last", x.about(1, 2, 0), 24);
        int[] any = {0, -1, 3, 99, LEAST, GREATEST};
        for (int v : any) {
            due.sentence("Promise 4", "the MARGIN of a row (1; column does not matter)");
            due.is("about(0, " + v + ", 1)", x.about(0, v, 1), 6);
            due.is("about(1, " + v + ", 1)", x.about(1, v, 1), 54);
            due.sentence("Promise 4", "of a column (2; row does not matter)");
            due.is("about(" + v + ", 0, 2)", x.about(v, 0, 2), 11);
            due.is("about(" + v + ", 2, 2)", x.about(v, 2, 2), 27);
            due.sentence("Promise 4", "all in all (3; both do not matter)");
            due.is("about(" + v + ", " + v + ", 3)", x.about(v, v, 3), 60);
        }
    }

    private static void sampleGrows() {
        due.sentence("Promise 5", "A number more of SAMPLE A (0), B (1): how many it has");
        ExactTests x = new ExactTests();
        int[] numbers = {-1000, 1000, 0, -999, 999};
        for (int i = 0; i < numbers.length; i++) {
            due.is("A, " + numbers[i], x.sample(0, numbers[i]), i + 1);
            due.is("A has", x.told(0), i + 1);
            due.is("B has", x.told(1), 0);
        }
        due.is("B", x.sample(1, 1000), 1);
        due.is("A as it was", x.told(0), 5);
        int[] ranks = {2, 11, 6, 4, 8};
        for (int i = 0; i < ranks.length; i++) {
            due.is("at its place, " + i, x.rank(0, i), ranks[i]);
        }
        due.is("the sum of A", x.labels(0), 0);
    }

    private static void pairGrows() {
        due.sentence("Promise 6", "A PAIR more: how many");
        ExactTests x = new ExactTests();
        int[][] pairs = {{1000, -1000}, {-1000, 1000}, {1000, 1000}, {-1000, -1000}, {0, 1}};
        for (int i = 0; i < pairs.length; i++) {
            due.is("pair", x.pair(pairs[i][0], pairs[i][1]), i + 1);
        }
        int[] ranks = {5, 5, 0, 0, 2};
        for (int i = 0; i < ranks.length; i++) {
            due.is("at its place, " + i, x.rank(2, i), ranks[i]);
        }
        due.is("the sum above 0", x.signs(0), 2000);
    }

    /** Everything that can be full is: 15 and 15 numbers, 30 pairs, 12 chances, 40 claimed. */
    private static ExactTests full() {
        ExactTests x = new ExactTests();
        for (int i = 0; i < 15; i++) {
            x.sample(0, i);
            x.sample(1, -i);
        }
        for (int i = 0; i < 30; i++) {
            x.pair(i, 3);
        }
        x.labels(1);
        for (int i = 0; i < 12; i++) {
            x.note(i % 4);
        }
        for (int i = 0; i < 40; i++) {
            x.claim(i);
        }
        return x;
    }

    private static void clearEmpties() {
        due.sentence("Promise 7", "are emptied: how many numbers (PAIRS, chances) there were");
        ExactTests x = full();
        int[] had = {30, 30, 12, 40};
        for (int which = 0; which <= 3; which++) {
            due.is("clear(" + which + ") of what is full", x.clear(which), had[which]);
            due.is("clear(" + which + ") of what is empty", x.clear(which), 0);
        }
        due.is("A anew", x.sample(0, 1), 1);
        due.is("B anew", x.sample(1, 1), 1);
        due.is("PAIRS anew", x.pair(1, 0), 1);
        due.is("THE LIST anew", x.note(0), 1);
        due.is("CLAIMED anew", x.claim(0), 1);
        x.clear(0);
        x.sample(0, 4);
        due.is("clear(0) of A alone", x.clear(0), 1);
        x.sample(1, 4);
        x.sample(1, 4);
        due.is("clear(0) of B alone", x.clear(0), 2);
    }

    private static void clearsOnlyThat() {
        due.sentence("Promise 7", "SAMPLES (0), PAIRS (1), THE LIST (2), CLAIMED numbers (3)");
        int[][] empties = {{0, 1}, {2}, {3}, {4}};
        int[] fulls = {15, 15, 30, 12, 40, 1, 1, 0};
        for (int which = 0; which <= 3; which++) {
            ExactTests x = full();
            x.clear(which);
            int[] wants = fulls.clone();
            for (int what : empties[which]) {
                wants[what] = 0;
            }
            for (int what = 0; what <= 7; what++) {
                due.is("clear(" + which + "), told(" + what + ")", x.told(what), wants[what]);
            }
            due.is("RESULTS stay", x.result(0), 2);
        }
    }

    private static void casesFromOneTo20000() {
        due.sentence("Promise 8", "TABLE TEST: how many CASES");
        ExactTests x = new ExactTests();
        x.cell(0, 0, 1);
        due.is("1 in all", x.tables(), 1);
        due.chances("1 in all", x, 1, 1, 1, 1, 1, 1, 1, 1);
        x.cell(0, 0, 60);
        due.is("60 in one cell", x.tables(), 1);
        Bench.fill(x, 5, 5, 0, 0, 0, 0, 0, 0, 0, 0, 0, 0, 0, 0, 0, 60);
        due.is("60 in one of 25 cells", x.tables(), 1);
        due.is("its corner", x.result(1), 0);
        Bench.margins(x, Bench.of(1, 1), 1, 1);
        due.is("two", x.tables(), 2);
        due.sentence("Promise 8", "SPENT: there are more than 20000");
        Bench.margins(x, Bench.of(9, 12, 10, 1, 0), 11, 11, 9, 1);
        due.is("just 20000", x.tables(), 20000);
        due.is("all are kept", x.told(7), 20000);
        due.is("the last", x.caseAt(19999, 0, 0), 9);
        Bench.margins(x, Bench.of(13, 7, 4, 3), 3, 3, 10, 11);
        due.is("just 20001", x.tables(), -7);
        Bench.tooManyCases(x);
        due.is("most of all", x.tables(), -7);
        due.is("still kept", x.told(7), 20000);
    }

    private static void labelsFromOneTo15() {
        due.sentence("Promise 9", "LABEL TEST (0), RANK TEST (1): the STATISTIC of A");
        int[][] sizes = {{1, 1}, {1, 15}, {15, 1}, {15, 15}, {14, 15}};
        long[] ways = {2, 16, 16, 155117520, 77558760};
        for (int i = 0; i < sizes.length; i++) {
            ExactTests x = new ExactTests();
            for (int k = 0; k < sizes[i][0]; k++) {
                x.sample(0, -1000);
            }
            for (int k = 0; k < sizes[i][1]; k++) {
                x.sample(1, 1000);
            }
            int a = sizes[i][0];
            String name = a + " and " + sizes[i][1];
            due.is(name + ", LABEL", x.labels(0), -1000 * a);
            due.chance(name + ", LABEL, LOW", x, 1, 1, ways[i]);
            due.chance(name + ", LABEL, HIGH", x, 2, 1, 1);
            due.is(name + ", RANK", x.labels(1), a * (a + 1));
            due.chance(name + ", RANK, JUST", x, 3, 1, ways[i]);
        }
    }

    private static void signsFromOneTo30() {
        due.sentence("Promise 10", "FLIP TEST (0), SIGNED TEST (1), SIGN TEST (2): the STATISTIC of PAIRS as they are");
        int[] counts = {1, 2, 29, 30};
        for (int n : counts) {
            ExactTests x = new ExactTests();
            for (int i = 0; i < n; i++) {
                x.pair(1000, -1000);
            }
            due.is(n + " FLIP", x.signs(0), 2000 * n);
            due.chance(n + " FLIP", x, 2, 1, 1L << n);
            due.chance(n + " FLIP", x, 1, 1, 1);
            due.is(n + " SIGNED", x.signs(1), n * (n + 1));
            due.chance(n + " SIGNED", x, 0, 1, 1L << n - 1);
            due.is(n + " SIGN", x.signs(2), n);
            due.chance(n + " SIGN", x, 3, 1, 1L << n);
            ExactTests y = new ExactTests();
            for (int i = 0; i < n; i++) {
                y.pair(-1000, 1000);
            }
            for (int which = 0; which <= 2; which++) {
                due.is(n + " below 0, " + which, y.signs(which), 0);
                due.chance(n + " below 0, " + which, y, 1, 1, 1L << n);
            }
        }
    }

    private static void rankAtTheEnds() {
        due.sentence("Promise 11", "The RANK that a number of SAMPLES (0 A, 1 B; its place) has");
        ExactTests x = full();
        due.is("A first", x.rank(0, 0), 31);
        due.is("A last", x.rank(0, 14), 60);
        due.is("B first", x.rank(1, 0), 31);
        due.is("B last", x.rank(1, 14), 2);
        ExactTests alone = new ExactTests();
        alone.sample(1, 5);
        due.is("B alone, A is empty", alone.rank(1, 0), 2);
        due.sentence("Promise 11", "or of PAIRS (2) the size of a difference (0, if that is 0)");
        // Differences -3 -2 -1 0 1 2 3 4 .. 26
        int[] places = {0, 1, 2, 3, 4, 5, 6, 7, 29};
        int[] ranks = {11, 7, 3, 0, 3, 7, 11, 14, 58};
        for (int i = 0; i < places.length; i++) {
            due.is("rank(2, " + places[i] + ")", x.rank(2, places[i]), ranks[i]);
        }
    }

    private static void caseAtTheEnds() {
        due.sentence("Promise 12", "Number at row, column of CASE i of the latest tables() that went, in order");
        ExactTests x = new ExactTests();
        Bench.fill(x, 5, 5, 60);
        x.tables();
        due.is("60", x.caseAt(0, 0, 0), 60);
        due.is("the last cell", x.caseAt(0, 4, 4), 0);
        Bench.fill(x, 5, 5, 0, 0, 0, 0, 0, 0, 0, 0, 0, 0, 0, 0, 0, 0, 0, 0, 0, 0, 0, 0, 0, 0, 0, 0, 60);
        x.tables();
        due.is("the last cell has 60", x.caseAt(0, 4, 4), 60);
        due.is("the first has none", x.caseAt(0, 0, 0), 0);
        Bench.fill(x, 5, 5, 1, 2, 1, 3, 1, 0, 0, 0, 0, 0, 0, 0, 0, 0, 0, 0, 0, 0, 0, 0, 0, 0, 0, 0, 0);
        due.is("rows of 0", x.tables(), 1);
        for (int c = 0; c < 5; c++) {
            due.is("column " + c, x.caseAt(0, 0, c), new int[] {1, 2, 1, 3, 1}[c]);
        }
        Bench.margins(x, Bench.of(2, 1, 1, 1, 1), 1, 1, 1, 1, 2);
        int cases = x.tables();
        int[] sums = new int[5];
        for (int at = 0; at < 25; at++) {
            sums[at / 5] += x.caseAt(cases - 1, at / 5, at % 5);
        }
        for (int r = 0; r < 5; r++) {
            due.is("the last CASE keeps the MARGIN of row " + r, sums[r], r == 0 ? 2 : 1);
        }
        x.pair(1, 0);
        x.signs(0);
        x.table(1, 1);
        due.is("though another TEST went", x.caseAt(cases - 1, 0, 0), 1);
        due.is("as many", x.told(7), cases);
    }

    private static void weighsAtTheEnds() {
        due.sentence("Promise 13", "As 1, 0, -1: the WEIGHT of CASE i is greater than that of what was seen, the same, less");
        ExactTests x = new ExactTests();
        int[][] orders = {{0, 1, 1, 1, 0}, {-1, 0, 1, 0, -1}, {-1, -1, 0, -1, -1}};
        for (int n = 0; n <= 2; n++) {
            Bench.fill(x, 2, 2, n, 4 - n, 4 - n, n);
            x.tables();
            for (int i = 0; i <= 4; i++) {
                due.is("seen " + n + ", weighs(" + i + ")", x.weighs(i), orders[n][i]);
            }
        }
        Bench.fill(x, 2, 2, 0, 4, 4, 0);
        x.pair(1, 0);
        x.signs(0);
        due.is("of what tables() saw, whatever is changed", x.weighs(0), -1);
        Bench.margins(x, Bench.of(17, 17, 4, 4), 19, 13, 10);
        due.is("20000", x.tables(), 20000);
        due.is("the last is what was seen", x.weighs(19999), 0);
    }

    /** All n differences are above 0: HIGH is 1 / 2^n. */
    private static ExactTests halves(int n) {
        ExactTests x = new ExactTests();
        for (int i = 0; i < n; i++) {
            x.pair(1, 0);
        }
        x.signs(2);
        return x;
    }

    private static void bitsOfPowers() {
        due.sentence("Promise 14", "Bits of the upper (what = 0), lower number (1) of the chance of a tail");
        for (int n = 1; n <= 30; n++) {
            ExactTests x = halves(n);
            due.is("1", x.bits(2, 0), 1);
            due.is("2 to the " + n, x.bits(2, 1), n + 1);
            due.is("1 / 1", x.bits(1, 1), 1);
        }
        // Of 2^n ways all but one: 2^n - 1.
        for (int n = 1; n <= 30; n++) {
            ExactTests x = new ExactTests();
            for (int i = 0; i < n; i++) {
                x.pair(1, i == 0 ? 2 : 0);
            }
            x.signs(2);
            BigInteger all = BigInteger.ONE.shiftLeft(n);
            BigInteger low = all.subtract(BigInteger.ONE);
            due.is("2 to the " + n + " less 1", x.bits(1, 0), low.bitLength());
        }
    }

    private static void wordsAndTheirEnd() {
        due.sentence("Promise 15", "Sixteen bits of it, those from bit 16 k on");
        for (int n = 1; n <= 30; n++) {
            ExactTests x = halves(n);
            for (int k = 0; k <= 3; k++) {
                due.is("2 to the " + n + ", word " + k, x.word(2, 1, k), k == n / 16 ? 1 << n % 16 : 0);
            }
        }
        due.sentence("Promise 15", "0 beyond its end");
        ExactTests x = halves(30);
        int[] beyond = {2, 3, 4, 23, 24, 25, 1 << 26, 1 << 27, 1 << 28, 1 << 29, 1 << 30, GREATEST - 1, GREATEST};
        for (int k : beyond) {
            due.is("lower, word " + k, x.word(2, 1, k), 0);
            due.is("upper, word " + k, x.word(2, 0, k), 0);
        }
    }

    private static BigInteger factorial(int n) {
        BigInteger product = BigInteger.ONE;
        for (int i = 2; i <= n; i++) {
            product = product.multiply(BigInteger.valueOf(i));
        }
        return product;
    }

    private static void longNumbers() {
        due.sentence("What it is", "each chance as a fraction of whole numbers of any length");
        ExactTests x = new ExactTests();
        Bench.fill(x, 3, 3, 18, 0, 0, 0, 18, 0, 0, 0, 18);
        due.is("CASES", x.tables(), 18145);
        // The weight is 18!^3, and six tables weigh so little.
        BigInteger lower = factorial(54).divide(factorial(18).pow(3));
        due.is("bits of JUST", x.bits(3, 1), lower.bitLength());
        for (int k = 0; k <= 6; k++) {
            due.is("word " + k + " of JUST", x.word(3, 1, k), lower.shiftRight(16 * k).intValue() & 65535);
        }
        BigInteger figures = BigInteger.TEN.pow(60).divide(lower);
        for (int i = 60; i >= 0; i--) {
            BigInteger[] cut = figures.divideAndRemainder(BigInteger.TEN);
            due.is("figure " + i + " of JUST", x.figure(3, i), cut[1].intValue());
            figures = cut[0];
        }
        due.isTrue("FAR is six times JUST", Bench.number(x, 0, 1).multiply(BigInteger.valueOf(6))
            .equals(lower.multiply(Bench.number(x, 0, 0))));
        due.is("below 1 / 1000000", x.against(3, 1, 1000000), -1);
        due.is("above 0", x.against(3, 0, 1000000), 1);
    }

    private static ExactTests oneOutOf(int n) {
        ExactTests x = new ExactTests();
        x.sample(0, 0);
        for (int i = 1; i < n; i++) {
            x.sample(1, i);
        }
        x.labels(0);
        return x;
    }

    private static void figuresToSixty() {
        due.sentence("Promise 16", "Figure i behind the point (1 to 60), cut down, of a chance");
        ExactTests third = new ExactTests();
        Bench.samples(third, Bench.of(0), Bench.of(0, 1));
        third.labels(0);
        for (int i = 1; i <= 60; i++) {
            due.is("figure " + i + " of 2 / 3", third.figure(1, i), 6);
            due.is("figure " + i + " of 1 / 1", third.figure(2, i), 0);
        }
        ExactTests tenth = oneOutOf(10);
        ExactTests eleventh = oneOutOf(11);
        for (int i = 1; i <= 60; i++) {
            due.is("figure " + i + " of 1 / 10", tenth.figure(1, i), i == 1 ? 1 : 0);
            due.is("figure " + i + " of 1 / 11", eleventh.figure(1, i), i % 2 == 0 ? 9 : 0);
        }
        ExactTests small = halves(30);
        BigInteger figures = BigInteger.TEN.pow(60).shiftRight(30);
        for (int i = 60; i >= 1; i--) {
            BigInteger[] cut = figures.divideAndRemainder(BigInteger.TEN);
            due.is("figure " + i + " of 1 / 2^30", small.figure(2, i), cut[1].intValue());
            figures = cut[0];
        }
        due.sentence("Promise 16", "i = 0: its whole part");
        due.is("of 1 / 1", third.figure(2, 0), 1);
        due.is("of 2 / 3", third.figure(1, 0), 0);
        due.is("of 1 / 2^30", small.figure(2, 0), 0);
    }

    private static void againstTheEndsOfLevels() {
        due.sentence("Promise 17", "-1, 0, 1, as a chance is below u / v, the same, above it");
        ExactTests x = oneOutOf(10);
        due.is("1 / 10 and 0 / 1", x.against(1, 0, 1), 1);
        due.is("1 / 10 and 0 / 1000000", x.against(1, 0, 1000000), 1);
        due.is("1 / 10 and 1000000 / 1", x.against(1, 1000000, 1), -1);
        due.is("1 / 10 and 100000 / 1000000", x.against(1, 100000, 1000000), 0);
        due.is("1 / 10 and 99999 / 1000000", x.against(1, 99999, 1000000), 1);
        due.is("1 / 10 and 100001 / 1000000", x.against(1, 100001, 1000000), -1);
        due.is("1 / 1 and 1000000 / 1000000", x.against(2, 1000000, 1000000), 0);
        due.is("1 / 1 and 1 / 1", x.against(2, 1, 1), 0);
        due.is("1 / 1 and 999999 / 1000000", x.against(2, 999999, 1000000), 1);
        due.is("1 / 1 and 1000000 / 999999", x.against(2, 1000000, 999999), -1);
    }

    private static void resultOfEachTest() {
        due.sentence("Promise 18", "0 the TEST (0 TABLE, 1 LABEL, 2 RANK, 3 FLIP, 4 SIGNED, 5 SIGN)");
        ExactTests x = full();
        x.cell(0, 0, 60);
        // A is 0 .. 14, B 0 .. -14; the differences are -3 .. 26, one of them is 0.
        int[] statistics = {60, 105, 689, 351, 849, 26};
        for (int test = 0; test <= 5; test++) {
            int answer = test == 0 ? x.tables() : test < 3 ? x.labels(test - 1) : x.signs(test - 3);
            due.sentence("Promise 18", "0 the TEST");
            due.is("test " + test, x.result(0), test);
            due.sentence("Promise 18", "1 the STATISTIC (of TABLE that of what was seen)");
            due.is("test " + test, x.result(1), test == 0 ? 60 : answer);
            due.is("test " + test, x.result(1), statistics[test]);
            due.sentence("Promise 18", "2 how many numbers, differences, or all in all, were asked");
            due.is("test " + test, x.result(2), test == 0 ? 60 : test < 3 ? 30 : 29);
        }
    }

    private static void waysOfAnything() {
        due.sentence("Promise 19", "How many CASES there were that had just a STATISTIC");
        int[] none = {LEAST, LEAST + 1, -(1 << 30), -131072, -60001, -60000, 60001, 131072, 1 << 30, GREATEST};
        ExactTests x = new ExactTests();
        Bench.samples(x, Bench.of(-1000, 1000, 0), Bench.of(500, -500, 0));
        for (int i = 0; i < 30; i++) {
            x.pair(1000, -1000);
        }
        for (int test = 1; test <= 5; test++) {
            int answer = test < 3 ? x.labels(test - 1) : x.signs(test - 3);
            due.isTrue("test " + test + ", what was seen", x.ways(answer) > 0);
            for (int s : none) {
                due.is("test " + test + ", ways(" + s + ")", x.ways(s), 0);
            }
        }
        x.labels(0);
        due.is("the least of three", x.ways(-1500), 2);
        due.is("the greatest of three", x.ways(1500), 2);
        due.is("beyond", x.ways(1501), 0);
        x.signs(0);
        due.is("the least", x.ways(0), 1);
        due.is("the greatest", x.ways(60000), 1);
        due.is("one from the greatest", x.ways(58000), 30);
        due.is("below the least", x.ways(-1), 0);
        due.is("the most", x.ways(30000), 155117520);
        waysTogether();
        waysFarAway();
    }

    /** No number far outside is taken for a sum of more or of fewer numbers than A has. */
    private static void waysFarAway() {
        for (int sign = -1; sign <= 1; sign += 2) {
            for (int which = 0; which <= 1; which++) {
                ExactTests x = new ExactTests();
                for (int i = 0; i < 15; i++) {
                    x.sample(0, i % 2 == 0 ? 1000 : -1000);
                    x.sample(1, i % 2 == 0 ? -1000 : 1000);
                }
                x.labels(which);
                for (int power = 15; power <= 24; power++) {
                    for (int step = -20; step <= 20; step++) {
                        int s = sign * ((1 << power) + 1000 * step);
                        due.is("of labels(" + which + "), ways(" + s + ")", x.ways(s), 0);
                    }
                }
            }
        }
    }

    private static void waysTogether() {
        ExactTests x = new ExactTests();
        Bench.samples(x, Bench.of(-3, 8, 8, 1), Bench.of(2, -9, 8, 0, 5));
        x.labels(0);
        long together = 0;
        for (int s = -40; s <= 40; s++) {
            together += x.ways(s);
        }
        due.is("all ways together, four of nine", together, 126);
    }

    private static void noteUpToTwelve() {
        due.sentence("Promise 20", "The chance of a tail comes into THE LIST: how many there are");
        ExactTests x = oneOutOf(10);
        for (int i = 1; i <= 12; i++) {
            due.is("note", x.note(i % 4), i);
            due.is("there are", x.told(3), i);
        }
        ExactTests y = oneOutOf(10);
        y.note(1);
        y.note(2);
        due.is("LOW, 1 / 10", y.isRejected(0, 1, 5), 1);
        due.is("HIGH, 1", y.isRejected(1, 1, 5), 0);
        y.clear(0);
        Bench.differences(y, 1);
        y.signs(0);
        due.is("a chance stays as it was noted", y.isRejected(0, 1, 5), 1);
        due.is("the other too", y.isRejected(1, 999999, 1000000), 0);
    }

    private static void rejectedAtTheEnds() {
        due.sentence("Promise 21", "How many of THE LIST are REJECTED at a level");
        ExactTests x = oneOutOf(10);
        due.is("THE LIST is empty", x.rejected(1, 1), 0);
        x.note(1);
        due.is("one, at 0", x.rejected(0, 1), 0);
        due.is("one, just so", x.rejected(100000, 1000000), 1);
        due.is("one, just below", x.rejected(99999, 1000000), 0);
        due.is("one, at the greatest", x.rejected(1000000, 1), 1);
        for (int i = 2; i <= 12; i++) {
            x.note(2);
        }
        due.is("twelve, at the greatest", x.rejected(1000000, 1), 12);
        due.is("twelve, at 11 / 1", x.rejected(11, 1), 12);
        due.is("twelve, just below", x.rejected(999999, 90910), 1);
        due.is("twelve, at 12 / 10", x.rejected(12, 10), 1);
        due.is("twelve, below 12 / 10", x.rejected(119999, 100000), 0);
        due.is("twelve, at 1 / 1000000", x.rejected(1, 1000000), 0);
    }

    private static void isRejectedAtTheEnds() {
        due.sentence("Promise 22", "Whether chance i of THE LIST is REJECTED at a level: 1, 0");
        ExactTests x = oneOutOf(10);
        for (int i = 0; i < 11; i++) {
            x.note(2);
        }
        x.note(1);
        for (int i = 0; i < 12; i++) {
            due.is("chance " + i + " at 12 / 10", x.isRejected(i, 12, 10), i == 11 ? 1 : 0);
            due.is("chance " + i + " at 11 / 1", x.isRejected(i, 11, 1), 1);
            due.is("chance " + i + " at 0", x.isRejected(i, 0, 1000000), 0);
            due.is("chance " + i + " at the greatest", x.isRejected(i, 1000000, 1), 1);
        }
    }

    private static void claimUpToForty() {
        due.sentence("Promise 23", "A number more of what is CLAIMED (0 to 65535): how many");
        ExactTests x = new ExactTests();
        for (int i = 1; i <= 40; i++) {
            due.is("claim", x.claim(i % 3 == 0 ? 0 : i % 3 == 1 ? 65535 : i), i);
            due.is("there are", x.told(4), i);
        }
    }

    private static void checkWordByWord() {
        due.sentence("Promise 24", "the words of the lower number of a chance, from its lowest on, then those of the upper one");
        ExactTests x = new ExactTests();
        Bench.fill(x, 2, 2, 16, 14, 14, 16);
        x.tables();
        BigInteger upper = Bench.number(x, 3, 0);
        BigInteger lower = Bench.number(x, 3, 1);
        int lowerWords = (lower.bitLength() + 15) / 16;
        int upperWords = (upper.bitLength() + 15) / 16;
        due.isTrue("both are long", lowerWords > 2 && upperWords > 2);
        Bench.claimChance(x, 3);
        due.is("as due", x.check(3), 1);
        due.sentence("Promise 24", "-100 less the first that is not as it is (.. one too many)");
        x.claim(0);
        due.is("a 0 too many", x.check(3), -100 - lowerWords - upperWords);
        x.claim(1);
        due.is("two too many", x.check(3), -100 - lowerWords - upperWords);
        x.clear(3);
        Bench.claimWords(x, upper);
        Bench.claimWords(x, lower);
        due.is("the upper one first", x.check(3), -100);
        for (int wrong = 0; wrong < lowerWords + upperWords; wrong++) {
            wrongAt(x, lower, upper, lowerWords, wrong);
        }
        lacking();
    }

    /** All words as due but one. */
    private static void wrongAt(ExactTests x, BigInteger lower, BigInteger upper, int lowerWords, int wrong) {
        x.clear(3);
        int upperWords = (upper.bitLength() + 15) / 16;
        for (int i = 0; i < lowerWords + upperWords; i++) {
            BigInteger number = i < lowerWords ? lower : upper;
            int word = number.shiftRight(16 * (i < lowerWords ? i : i - lowerWords)).intValue() & 65535;
            x.claim(i == wrong ? word ^ 32768 : word);
        }
        due.is("another at " + wrong, x.check(3), -100 - wrong);
    }

    private static void lacking() {
        due.sentence("Promise 24", "(one that lacks: how many there are)");
        ExactTests x = halves(30);
        due.is("nothing is CLAIMED", x.check(2), -100);
        x.claim(0);
        due.is("one of three", x.check(2), -101);
        x.claim(1 << 14);
        due.is("two of three", x.check(2), -102);
        x.claim(1);
        due.is("three of three", x.check(2), 1);
        due.is("1 / 1 is another", x.check(1), -100);
        due.sentence("Promise 24", "as many as each has");
        ExactTests y = halves(16);
        y.claim(0);
        y.claim(1);
        y.claim(1);
        due.is("2^16 has two", y.check(2), 1);
        ExactTests z = halves(15);
        z.claim(32768);
        z.claim(1);
        due.is("2^15 has one", z.check(2), 1);
        z.clear(3);
        z.claim(32768);
        z.claim(0);
        z.claim(1);
        due.is("and no 0 above it", z.check(2), -101);
    }

    private static void shiftOfOneAndOne() {
        due.sentence("Promise 25", "THE SHIFT");
        int[] ends = {-1000, -1, 0, 1, 1000};
        for (int a : ends) {
            for (int b : ends) {
                ExactTests x = new ExactTests();
                x.sample(0, a);
                x.sample(1, b);
                due.is("shift of " + a + " and " + b, x.shift(), 2 * (a - b));
            }
        }
        due.is("225 differences", full().shift(), 28);
    }

    private static void toldOfAll() {
        due.sentence("Promise 26", "0 numbers of A, 1 of B, 2 PAIRS, 3 chances in THE LIST, 4 numbers CLAIMED, 5 rows, 6 columns");
        ExactTests x = full();
        x.table(5, 4);
        int[] wants = {15, 15, 30, 12, 40, 5, 4, 0};
        for (int what = 0; what <= 7; what++) {
            due.is("told(" + what + ")", x.told(what), wants[what]);
        }
        due.sentence("Promise 26", "7 CASES kept by tables()");
        due.is("none went", x.told(7), 0);
        Bench.fill(x, 2, 2, 30, 0, 0, 30);
        due.is("not before it goes", x.told(7), 0);
        x.tables();
        due.is("thirty and thirty", x.told(7), 31);
        x.labels(0);
        x.table(1, 1);
        x.tables();
        due.is("until the next that goes", x.told(7), 31);
        x.cell(0, 0, 1);
        x.tables();
        due.is("the next that goes", x.told(7), 1);
    }
}
