/** Promises 14 to 19: how the results of a test are read. */
public final class ResultsTest {
    private static final int LEAST = Integer.MIN_VALUE, GREATEST = Integer.MAX_VALUE;
    private static final Due due = new Due();

    public static void main(String[] args) {
        withoutResults();
        bitsAndWords();
        figures();
        against();
        result();
        ways();
        resultsStay();
        due.close();
    }

    /** One number of A below all of B: LOW is 1 / (others + 1). */
    private static ExactTests oneOutOf(int others) {
        ExactTests x = new ExactTests();
        x.sample(0, 0);
        for (int i = 1; i <= others; i++) {
            x.sample(1, i);
        }
        x.labels(0);
        return x;
    }

    private static ExactTests thirtyAndThirty() {
        ExactTests x = new ExactTests();
        Bench.fill(x, 2, 2, 30, 0, 0, 30);
        x.tables();
        return x;
    }

    private static void withoutResults() {
        ExactTests x = new ExactTests();
        due.is("14: bits(0, 0)", x.bits(0, 0), -3);
        due.is("14: STATE is ahead", x.bits(9, 9), -3);
        due.is("15: word(0, 0, 0)", x.word(0, 0, 0), -3);
        due.is("15: STATE is ahead", x.word(9, 9, -1), -3);
        due.is("16: figure(0, 0)", x.figure(0, 0), -3);
        due.is("16: STATE is ahead", x.figure(-1, 61), -3);
        due.is("17: against(0, 1, 2)", x.against(0, 1, 2), -30);
        due.is("17: STATE is ahead", x.against(4, -1, 0), -30);
        due.is("18: result(0)", x.result(0), -1000000003);
        due.is("18: STATE is ahead", x.result(3), -1000000003);
        due.is("19: ways(0)", x.ways(0), -3);
        x.tables();
        x.labels(0);
        x.signs(0);
        due.is("14: tests that were refused bring none", x.bits(0, 0), -3);
    }

    private static void bitsAndWords() {
        ExactTests x = thirtyAndThirty();
        long lower = 118264581564861424L;
        due.is("14: bits(3, 0)", x.bits(3, 0), 1);
        due.is("14: bits(3, 1)", x.bits(3, 1), 57);
        due.is("14: bits(1, 0), a chance of 1", x.bits(1, 0), 1);
        due.is("14: bits(1, 1), a chance of 1", x.bits(1, 1), 1);
        for (int k = 0; k < 4; k++) {
            due.is("15: word(3, 1, " + k + ")", x.word(3, 1, k), lower >>> 16 * k & 65535);
        }
        for (int k : new int[] {4, 5, 8, 9, 20, 100, GREATEST}) {
            due.is("15: word(3, 1, " + k + ")", x.word(3, 1, k), 0);
        }
        due.is("15: word(3, 0, 0)", x.word(3, 0, 0), 1);
        due.is("15: word(3, 0, 1)", x.word(3, 0, 1), 0);
        int[] tails = {-1, 4, LEAST, GREATEST};
        for (int tail : tails) {
            due.is("14: bits(" + tail + ", 0)", x.bits(tail, 0), -1);
            due.is("14: UNKNOWN is ahead of OUTSIDE", x.bits(tail, 2), -1);
            due.is("15: word(" + tail + ", 0, 0)", x.word(tail, 0, 0), -1);
            due.is("15: UNKNOWN is ahead of OUTSIDE", x.word(tail, 2, -1), -1);
        }
        int[] whats = {-1, 2, LEAST, GREATEST};
        for (int what : whats) {
            due.is("14: bits(0, " + what + ")", x.bits(0, what), -2);
            due.is("15: word(0, " + what + ", 0)", x.word(0, what, 0), -2);
        }
        due.is("15: word(0, 0, -1)", x.word(0, 0, -1), -2);
        due.is("15: word(0, 1, least)", x.word(0, 1, LEAST), -2);
    }

    private static void figures() {
        ExactTests x = oneOutOf(6);
        int[] seventh = {1, 4, 2, 8, 5, 7};
        due.is("16: the whole part of 1 / 7", x.figure(1, 0), 0);
        for (int i = 1; i <= 60; i++) {
            due.is("16: figure " + i + " of 1 / 7", x.figure(1, i), seventh[(i - 1) % 6]);
            due.is("16: figure " + i + " of 1", x.figure(2, i), 0);
        }
        due.is("16: the whole part of 1", x.figure(2, 0), 1);
        due.is("16: figure(1, 61)", x.figure(1, 61), -2);
        due.is("16: figure(1, -1)", x.figure(1, -1), -2);
        due.is("16: figure(1, greatest)", x.figure(1, GREATEST), -2);
        due.is("16: figure(4, 61): UNKNOWN is ahead", x.figure(4, 61), -1);
        due.is("16: figure(-1, 1)", x.figure(-1, 1), -1);
        ExactTests y = oneOutOf(7);
        int[] eighth = {0, 1, 2, 5, 0, 0};
        for (int i = 0; i < eighth.length; i++) {
            due.is("16: figure " + i + " of 1 / 8", y.figure(1, i), eighth[i]);
        }
        ExactTests z = oneOutOf(5);
        due.is("16: cut down, 1 / 6", z.figure(1, 60), 6);
    }

    private static void against() {
        ExactTests x = oneOutOf(6);
        due.is("17: 1 / 7 and 1 / 7", x.against(1, 1, 7), 0);
        due.is("17: 1 / 7 and 142857 / 999999", x.against(1, 142857, 999999), 0);
        due.is("17: 1 / 7 and 142857 / 1000000", x.against(1, 142857, 1000000), 1);
        due.is("17: 1 / 7 and 142858 / 1000000", x.against(1, 142858, 1000000), -1);
        due.is("17: 1 / 7 and 0", x.against(1, 0, 1), 1);
        due.is("17: 1 and 1", x.against(2, 1000000, 1000000), 0);
        due.is("17: 1 and 1000000", x.against(2, 1000000, 1), -1);
        due.is("17: 1 and 999999 / 1000000", x.against(2, 999999, 1000000), 1);
        due.is("17: against(1, -1, 1)", x.against(1, -1, 1), -20);
        due.is("17: against(1, 1000001, 1)", x.against(1, 1000001, 1), -20);
        due.is("17: against(1, 1, 0)", x.against(1, 1, 0), -20);
        due.is("17: against(1, 1, -7)", x.against(1, 1, -7), -20);
        due.is("17: against(1, 1, 1000001)", x.against(1, 1, 1000001), -20);
        due.is("17: against(1, least, greatest)", x.against(1, LEAST, GREATEST), -20);
        due.is("17: against(4, -1, 0): UNKNOWN is ahead", x.against(4, -1, 0), -10);
        due.is("17: against(-1, 1, 1)", x.against(-1, 1, 1), -10);
        ExactTests y = thirtyAndThirty();
        due.is("17: a small chance and 1 / 1000000", y.against(3, 1, 1000000), -1);
        due.is("17: a small chance and 0", y.against(3, 0, 1000000), 1);
    }

    private static void result() {
        ExactTests x = new ExactTests();
        Bench.fill(x, 2, 2, 2, 3, 4, 5);
        x.sample(0, 4);
        x.sample(0, -9);
        x.sample(1, 4);
        x.pair(9, 2);
        x.pair(1, 1);
        x.pair(2, 9);
        x.pair(1, 2);
        int[][] wants = {{0, 2, 14}, {1, -5, 3}, {2, 7, 3}, {3, 7, 3}, {4, 5, 3}, {5, 1, 3}};
        for (int test = 0; test < 6; test++) {
            int answer = test == 0 ? x.tables() : test < 3 ? x.labels(test - 1) : x.signs(test - 3);
            due.isTrue("18: test " + test + " went", answer > -100);
            for (int what = 0; what < 3; what++) {
                due.is("18: test " + test + " result(" + what + ")", x.result(what), wants[test][what]);
            }
            due.is("18: result(3)", x.result(3), -1000000002);
            due.is("18: result(-1)", x.result(-1), -1000000002);
            due.is("18: result(greatest)", x.result(GREATEST), -1000000002);
        }
    }

    private static void ways() {
        ExactTests x = new ExactTests();
        Bench.fill(x, 2, 2, 2, 3, 4, 5);
        x.tables();
        due.is("19: of the TABLE TEST", x.ways(2), -3);
        for (int i = 0; i < 10; i++) {
            x.pair(1, 0);
        }
        x.signs(2);
        long[] tenth = {1, 10, 45, 120, 210, 252, 210, 120, 45, 10, 1};
        for (int s = 0; s <= 10; s++) {
            due.is("19: ways(" + s + ") of ten signs", x.ways(s), tenth[s]);
        }
        int[] none = {-1, 11, 1 << 17, -(1 << 17), LEAST, GREATEST};
        for (int s : none) {
            due.is("19: ways(" + s + ")", x.ways(s), 0);
        }
        x.signs(1);
        due.is("19: ranks of like sizes", x.ways(55), 252);
        due.is("19: ranks of like sizes, between", x.ways(54), 0);
        waysOfLabels(x);
        x.tables();
        due.is("19: of the TABLE TEST again", x.ways(2), -3);
    }

    private static void waysOfLabels(ExactTests x) {
        x.sample(0, -1000);
        x.sample(0, 1000);
        x.sample(1, 0);
        x.sample(1, 0);
        x.sample(1, 1000);
        x.labels(0);
        int[] sums = {-1000, 0, 1000, 2000, -2000, 1, 131072, -131072, 131072 - 1000, LEAST, GREATEST};
        long[] wants = {2, 3, 4, 1, 0, 0, 0, 0, 0, 0, 0};
        for (int i = 0; i < sums.length; i++) {
            due.is("19: ways(" + sums[i] + ") of labels", x.ways(sums[i]), wants[i]);
        }
    }

    private static void resultsStay() {
        ExactTests x = oneOutOf(6);
        x.clear(0);
        x.sample(0, 4);
        x.table(3, 3);
        x.cell(0, 0, 4);
        x.pair(1, 2);
        x.labels(0);
        x.labels(7);
        due.is("18: the STATISTIC stays", x.result(1), 0);
        due.is("18: the numbers asked stay", x.result(2), 7);
        due.is("19: ways stay", x.ways(3), 1);
        due.is("19: ways stay", x.ways(4), 1);
        due.is("19: ways stay", x.ways(7), 0);
        due.chance("14: the chance stays", x, 1, 1, 7);
        x.tables();
        due.is("18: until the next that goes", x.result(0), 0);
    }
}
