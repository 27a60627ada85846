import java.math.BigInteger;
import java.util.ArrayList;
import java.util.List;

/** The sentences of the document's "Terms" that name a boundary, each with a test of its own. */
public final class EdgesOfTermsTest {
    private static final Due due = new Due();

    public static void main(String[] args) {
        lastOf512Calls();
        constants();
        shapes();
        sixtyInAll();
        margins();
        weights();
        weightsTogether();
        order();
        samplesAndPairs();
        tails();
        lowestTerms();
        farByLabels();
        farBySigns();
        lowHighJust();
        farOfTables();
        statisticOfTables();
        justTheTable();
        likeNumbersAreSeveral();
        middleOfLabels();
        ranksOfLikeNumbers();
        differencesOfZero();
        ranksOfSizes();
        signsAlone();
        resultsStay();
        resultsOfEachTestStay();
        listOfTwelve();
        likeChances();
        levelsByStep();
        allAhead();
        shiftOfOdd();
        shiftOfEven();
        due.close();
    }

    private static void lastOf512Calls() {
        due.sentence("What it is", "An object is used for at most 512 calls");
        ExactTests x = new ExactTests();
        for (int i = 1; i <= 510; i++) {
            due.is("claim in call " + i, x.claim(i), i <= 40 ? i : -4);
        }
        x.cell(0, 0, 60);
        due.is("tables() in call 512", x.tables(), 1);
        ExactTests y = new ExactTests();
        y.sample(0, 1);
        y.sample(1, 0);
        for (int i = 3; i <= 512; i++) {
            due.is("labels in call " + i, y.labels(i % 2), i % 2 == 0 ? 1 : 4);
        }
    }

    private static void constants() {
        due.sentence("The constants", "UNKNOWN = -1, OUTSIDE = -2, STATE = -3, FULL = -4, NO = -5, NONE = -6, SPENT = -7");
        int[] seen = {ExactTests.UNKNOWN, ExactTests.OUTSIDE, ExactTests.STATE, ExactTests.FULL, ExactTests.NO,
            ExactTests.NONE, ExactTests.SPENT};
        for (int i = 0; i < seen.length; i++) {
            due.is("constant " + i, seen[i], -1 - i);
        }
        due.sentence("The constants", "LOST = -1000000001");
        due.is("LOST", ExactTests.LOST, -1000000001);
    }

    private static void shapes() {
        due.sentence("Terms 1", "THE TABLE has 1 to 5 rows and 1 to 5 columns of whole numbers");
        for (int rows = 1; rows <= 5; rows++) {
            for (int columns = 1; columns <= 5; columns++) {
                shape(rows, columns);
            }
        }
    }

    /** Every cell has a place of its own; the cells just beyond an edge are none, though others follow there. */
    private static void shape(int rows, int columns) {
        ExactTests x = new ExactTests();
        String name = rows + " x " + columns + " ";
        due.is(name + "table", x.table(rows, columns), 1);
        for (int r = 0; r < rows; r++) {
            for (int c = 0; c < columns; c++) {
                due.is(name + "cell(" + r + ", " + c + ")", x.cell(r, c, (r * 7 + c * 3) % 5), 0);
            }
        }
        for (int r = -1; r <= 5; r++) {
            for (int c = -1; c <= 5; c++) {
                boolean there = r >= 0 && r < rows && c >= 0 && c < columns;
                due.is(name + "about(" + r + ", " + c + ")", x.about(r, c, 0), there ? (r * 7 + c * 3) % 5 : -1);
                if (!there) {
                    due.is(name + "cell(" + r + ", " + c + ")", x.cell(r, c, 0), -1);
                }
            }
        }
    }

    private static void sixtyInAll() {
        due.sentence("Terms 1", "60 at most in all");
        ExactTests x = new ExactTests();
        x.table(5, 5);
        for (int i = 0; i < 25; i++) {
            due.is("2 in cell " + i, x.cell(i / 5, i % 5, 2), 0);
        }
        due.is("61 in all", x.cell(4, 4, 13), -4);
        due.is("60 in all", x.cell(4, 4, 12), 2);
        due.is("one more elsewhere", x.cell(0, 0, 3), -4);
        due.is("as many there", x.cell(0, 0, 2), 2);
        due.is("one less there", x.cell(0, 0, 1), 2);
        due.is("one more elsewhere now", x.cell(0, 1, 3), 2);
        due.is("and no more", x.cell(0, 2, 3), -4);
        due.is("in all", x.about(0, 0, 3), 60);
    }

    private static void margins() {
        due.sentence("Terms 1", "Its MARGINS are the sums of rows, of columns");
        ExactTests x = new ExactTests();
        Bench.fill(x, 3, 5, 1, 2, 3, 4, 5, 0, 0, 0, 0, 0, 9, 8, 7, 6, 15);
        int[] rows = {15, 0, 45};
        int[] columns = {10, 10, 10, 10, 20};
        for (int r = 0; r < 3; r++) {
            due.is("row " + r, x.about(r, 0, 1), rows[r]);
        }
        for (int c = 0; c < 5; c++) {
            due.is("column " + c, x.about(0, c, 2), columns[c]);
        }
        due.is("in all", x.about(0, 0, 3), 60);
    }

    private static void weights() {
        due.sentence("Terms 1", "The WEIGHT of a table is the factorials of all its MARGINS multiplied, by those of all its numbers");
        ExactTests x = new ExactTests();
        // 3! 3! 2! 4! / (2! 1! 0! 3!) = 144 of 6! = 720
        Bench.fill(x, 2, 2, 2, 1, 0, 3);
        due.is("tables()", x.tables(), 3);
        due.chance("144 of 720", x, 3, 1, 5);
        // 4! 1! 1! 2! / (1! 1! 2!) = 4!
        Bench.fill(x, 1, 3, 1, 1, 2);
        due.is("tables()", x.tables(), 1);
        due.chance("24 of 24", x, 3, 1, 1);
        Bench.fill(x, 3, 3, 1, 1, 0, 0, 1, 1, 1, 0, 1);
        // (2!)^6 / 1 = 64 of 6! = 720
        x.tables();
        due.chance("64 of 720", x, 3, 4, 45);
    }

    private static void weightsTogether() {
        due.sentence("Terms 1", "the WEIGHTS of all tables with the same MARGINS together are the factorial of all in all");
        ExactTests x = new ExactTests();
        Bench.fill(x, 2, 3, 4, 0, 2, 1, 5, 2);
        int cases = x.tables();
        due.is("CASES", cases, 23);
        BigInteger upper = BigInteger.ZERO;
        BigInteger lower = BigInteger.ONE;
        for (int i = 0; i < cases; i++) {
            ExactTests y = new ExactTests();
            int[] cells = new int[6];
            for (int at = 0; at < 6; at++) {
                cells[at] = x.caseAt(i, at / 3, at % 3);
            }
            Bench.fill(y, 2, 3, cells);
            due.is("CASES of CASE " + i, y.tables(), 23);
            BigInteger u = Bench.number(y, 3, 0);
            BigInteger v = Bench.number(y, 3, 1);
            upper = upper.multiply(v).add(u.multiply(lower));
            lower = lower.multiply(v);
        }
        due.isTrue("all JUST together are 1", upper.equals(lower));
    }

    private static void order() {
        due.sentence("Terms 1", "They are ordered by their numbers, row by row: at the first that differ the lesser is ahead");
        inOrder(2, 3, 23, 4, 0, 2, 1, 5, 2);
        inOrder(3, 2, 23, 4, 1, 0, 5, 2, 2);
        inOrder(3, 3, 21, 2, 0, 0, 0, 2, 0, 0, 0, 2);
        inOrder(5, 5, 120, 1, 0, 0, 0, 0, 0, 1, 0, 0, 0, 0, 0, 1, 0, 0, 0, 0, 0, 1, 0, 0, 0, 0, 0, 1);
        inOrder(2, 2, 31, 30, 0, 0, 30);
        inOrder(2, 2, 1, 60, 0, 0, 0);
    }

    private static void inOrder(int rows, int columns, int count, int... cells) {
        int[] ahead = null;
        for (int i = 0; i < count; i++) {
            ExactTests x = new ExactTests();
            Bench.fill(x, rows, columns, cells);
            due.is("CASES of " + rows + " x " + columns, x.tables(), count);
            int[] now = new int[rows * columns];
            int first = -1;
            for (int at = 0; at < now.length; at++) {
                now[at] = x.caseAt(i, at / columns, at % columns);
                if (first < 0 && ahead != null && ahead[at] != now[at]) {
                    first = at;
                }
            }
            if (ahead != null) {
                due.isTrue("CASE " + (i - 1) + " is ahead of CASE " + i, first >= 0 && ahead[first] < now[first]);
            }
            ahead = now;
        }
    }

    private static void samplesAndPairs() {
        due.sentence("Terms 1", "SAMPLES A and B have up to 15 numbers each (-1000 to 1000)");
        ExactTests x = new ExactTests();
        for (int which = 0; which < 2; which++) {
            for (int i = 1; i <= 15; i++) {
                due.is("sample " + which, x.sample(which, which == 0 ? 1000 : -1000), i);
            }
            due.is("a 16th of sample " + which, x.sample(which, 0), -4);
        }
        due.is("15 of 1000", x.labels(0), 15000);
        due.sentence("Terms 1", "PAIRS, 30 at most, are two numbers each (-1000 to 1000)");
        for (int i = 1; i <= 30; i++) {
            due.is("pair", i % 2 == 0 ? x.pair(1000, -1000) : x.pair(-1000, 1000), i);
        }
        due.is("a 31st pair", x.pair(0, 0), -4);
        due.is("15 of 2000", x.signs(0), 30000);
        due.is("ways of 30 of 2000", x.ways(60000), 1);
    }

    private static void tails() {
        due.sentence("Terms 2", "for tails 0 to 3 a chance");
        ExactTests x = new ExactTests();
        Bench.differences(x, 1, 1, -1);
        x.signs(2);
        for (int tail = 0; tail <= 3; tail++) {
            due.isTrue("tail " + tail, x.bits(tail, 1) > 0);
        }
        due.is("tail -1", x.bits(-1, 1), -1);
        due.is("tail 4", x.bits(4, 1), -1);
        due.chances("two of three signs", x, 1, 1, 7, 8, 1, 2, 3, 8);
    }

    private static void lowestTerms() {
        due.sentence("Terms 2", "a fraction in lowest terms");
        for (int n = 1; n <= 60; n++) {
            ExactTests x = new ExactTests();
            // Of n ways all n: n / n has to come down to 1 / 1, whatever prime n is.
            Bench.fill(x, 2, 1, 1, n - 1);
            x.tables();
            due.chances(n + " of " + n, x, 1, 1, 1, 1, 1, 1, 1, 1);
            Bench.fill(x, 2, 2, n / 3, n / 4, n / 5, n / 6 + 1);
            x.tables();
            for (int tail = 0; tail < 4; tail++) {
                BigInteger upper = Bench.number(x, tail, 0);
                BigInteger lower = Bench.number(x, tail, 1);
                due.is("gcd of tail " + tail + ", " + n, upper.gcd(lower).longValue(), 1);
            }
        }
        for (int n = 1; n <= 30; n++) {
            ExactTests x = new ExactTests();
            for (int i = 0; i < n; i++) {
                x.pair(i % 3, 1 - i % 2);
            }
            if (x.signs(2) >= 0) {
                BigInteger upper = Bench.number(x, 3, 0);
                due.is("gcd of JUST of signs", upper.gcd(Bench.number(x, 3, 1)).longValue(), 1);
            }
        }
    }

    private static ExactTests labelled(int[] a, int... b) {
        ExactTests x = new ExactTests();
        Bench.samples(x, a, b);
        x.labels(0);
        return x;
    }

    private static ExactTests signed(int which, int... differences) {
        ExactTests x = new ExactTests();
        Bench.differences(x, differences);
        x.signs(which);
        return x;
    }

    private static void farByLabels() {
        due.sentence("Terms 2", "FAR: that are as far from the middle as what was seen, or farther");
        due.chance("above, another just as far", labelled(Bench.of(0), -2, -4), 0, 2, 3);
        due.chance("above, another a third nearer", labelled(Bench.of(0), -2, -3), 0, 1, 3);
        due.chance("above, another a third farther", labelled(Bench.of(0), -2, -5), 0, 2, 3);
        due.chance("below, another just as far", labelled(Bench.of(0), 2, 4), 0, 2, 3);
        due.chance("below, another a third nearer", labelled(Bench.of(0), 2, 3), 0, 1, 3);
        due.chance("below, another a third farther", labelled(Bench.of(0), 2, 5), 0, 2, 3);
        due.chance("in the middle", labelled(Bench.of(2), 0, 4), 0, 1, 1);
        due.chance("a third from the middle", labelled(Bench.of(2), 0, 5), 0, 1, 1);
        due.chance("next to the middle, others nearer", labelled(Bench.of(1, 5), 2, 3, 4, 6), 0, 4, 5);
    }

    private static void farBySigns() {
        due.sentence("Terms 2", "the middle is half of the sum of all sizes");
        due.chance("3, less 1", signed(0, 3, -1), 0, 1, 1);
        due.chance("3 and 1", signed(0, 3, 1), 0, 1, 2);
        due.chance("less 3, less 1", signed(0, -3, -1), 0, 1, 2);
        due.chance("an odd sum, nearest", signed(0, 2, -1), 0, 1, 1);
        due.chance("an odd sum, farthest", signed(0, 2, 1), 0, 1, 2);
        due.chance("just in the middle", signed(0, 1, -1), 0, 1, 1);
        due.chance("1 2 4, seen 5 of 7", signed(0, 1, -2, 4), 0, 3, 4);
        due.chance("1 2 4, seen 2 of 7", signed(0, -1, 2, -4), 0, 3, 4);
    }

    private static void lowHighJust() {
        ExactTests x = labelled(Bench.of(2), 1, 2, 3, 3);
        due.sentence("Terms 2", "LOW: whose STATISTIC is not above that of what was seen");
        due.chance("2 of 1 2 2 3 3", x, 1, 3, 5);
        due.sentence("Terms 2", "HIGH: not below");
        due.chance("2 of 1 2 2 3 3", x, 2, 4, 5);
        due.sentence("Terms 2", "JUST: that have the same");
        due.chance("2 of 1 2 2 3 3", x, 3, 2, 5);
        ExactTests least = labelled(Bench.of(1), 2, 2, 3, 3);
        due.chances("the least", least, 1, 5, 1, 5, 1, 1, 1, 5);
        ExactTests greatest = labelled(Bench.of(3), 1, 2, 2, 3);
        due.chances("the greatest", greatest, 3, 5, 1, 1, 2, 5, 2, 5);
    }

    private static void farOfTables() {
        due.sentence("Terms 2", "FAR: those whose WEIGHT is not above THE TABLE's");
        ExactTests x = new ExactTests();
        // The weights are as 1, 16, 36, 16, 1.
        long[][] wants = {{1, 35}, {17, 35}, {1, 1}, {17, 35}, {1, 35}};
        for (int n = 0; n <= 4; n++) {
            Bench.fill(x, 2, 2, n, 4 - n, 4 - n, n);
            x.tables();
            due.chance("corner " + n, x, 0, wants[n][0], wants[n][1]);
        }
    }

    private static void statisticOfTables() {
        due.sentence("Terms 2", "The STATISTIC is the number at row 0, column 0");
        ExactTests x = new ExactTests();
        long[][] low = {{1, 70}, {17, 70}, {53, 70}, {69, 70}, {1, 1}};
        for (int n = 0; n <= 4; n++) {
            Bench.fill(x, 2, 2, n, 4 - n, 4 - n, n);
            x.tables();
            due.is("result(1)", x.result(1), n);
            due.chance("corner " + n + " LOW", x, 1, low[n][0], low[n][1]);
            due.chance("corner " + n + " HIGH", x, 2, low[4 - n][0], low[4 - n][1]);
        }
    }

    private static void justTheTable() {
        due.sentence("Terms 2", "JUST is THE TABLE alone");
        ExactTests x = new ExactTests();
        // 24 of 120 have the same corner, all 120 the same weight.
        Bench.fill(x, 5, 5, 1, 0, 0, 0, 0, 0, 1, 0, 0, 0, 0, 0, 1, 0, 0, 0, 0, 0, 1, 0, 0, 0, 0, 0, 1);
        x.tables();
        due.chances("ones", x, 1, 1, 1, 1, 1, 5, 1, 120);
        ExactTests y = new ExactTests();
        Bench.fill(y, 5, 5, 0, 1, 0, 0, 0, 1, 0, 0, 0, 0, 0, 0, 1, 0, 0, 0, 0, 0, 1, 0, 0, 0, 0, 0, 1);
        y.tables();
        due.chances("ones, corner 0", y, 1, 1, 4, 5, 1, 1, 1, 120);
    }

    private static void likeNumbersAreSeveral() {
        due.sentence("Terms 2", "(by their places; like numbers are several)");
        ExactTests x = labelled(Bench.of(5, 5), 5, 5, 5);
        due.is("ways(10)", x.ways(10), 10);
        ExactTests y = labelled(Bench.of(5, 5), 5, 1);
        due.is("ways(10)", y.ways(10), 3);
        due.is("ways(6)", y.ways(6), 3);
        due.sentence("Terms 2", "all ways to take as many numbers as A has out of those of A and B together");
        ExactTests one = labelled(Bench.of(1), 2, 4, 8);
        due.is("one of four", one.ways(8), 1);
        due.is("not two of four", one.ways(3), 0);
        due.is("not none", one.ways(0), 0);
        ExactTests three = labelled(Bench.of(1, 2, 4), 8);
        due.is("three of four", three.ways(14), 1);
        due.is("not four of four", three.ways(15), 0);
        due.is("not two of four", three.ways(12), 0);
    }

    private static void middleOfLabels() {
        due.sentence("Terms 2", "the middle is the sum of all by how many there are, times how many A has");
        // 10 in all, four of them, two taken: the middle is 5; 1 + 2 = 3 is 2 below, 3 + 4 = 7 is 2 above.
        due.chance("1 2 of 1 2 3 4", labelled(Bench.of(1, 2), 3, 4), 0, 1, 3);
        // Three taken: the middle is 7.5; 6, 7, 8, 9.
        due.chance("1 2 3 of 1 2 3 4", labelled(Bench.of(1, 2, 3), 4), 0, 1, 2);
        due.chance("1 2 4 of 1 2 3 4", labelled(Bench.of(1, 2, 4), 3), 0, 1, 1);
        due.chance("below 0", labelled(Bench.of(-1, -2), -3, -4), 0, 1, 3);
    }

    private static void ranksOfLikeNumbers() {
        due.sentence("Terms 2", "twice the mean place (from 1 on) of all like numbers among all in order (so a whole number)");
        ExactTests x = new ExactTests();
        Bench.samples(x, Bench.of(7, -3, 7), Bench.of(-3, 0, 7, 1000, -1000));
        int[] a = {12, 5, 12};
        int[] b = {5, 8, 12, 16, 2};
        for (int i = 0; i < a.length; i++) {
            due.is("rank(0, " + i + ")", x.rank(0, i), a[i]);
        }
        for (int i = 0; i < b.length; i++) {
            due.is("rank(1, " + i + ")", x.rank(1, i), b[i]);
        }
        ExactTests full = new ExactTests();
        for (int i = 0; i < 15; i++) {
            full.sample(0, 4);
            full.sample(1, 4);
        }
        due.is("all thirty alike", full.rank(0, 14), 31);
        due.is("their sum", full.labels(1), 15 * 31);
        due.chances("all thirty alike", full, 1, 1, 1, 1, 1, 1, 1, 1);
        due.is("ways", full.ways(15 * 31), 155117520);
    }

    private static void differencesOfZero() {
        due.sentence("Terms 2", "each difference (first less second number) of PAIRS that is not 0");
        for (int which = 0; which < 3; which++) {
            ExactTests x = signed(which, 3, -1, 2);
            ExactTests y = signed(which, 0, 3, 0, 0, -1, 2, 0);
            for (int tail = 0; tail < 4; tail++) {
                for (int what = 0; what < 2; what++) {
                    BigInteger plain = Bench.number(x, tail, what);
                    due.isTrue("with and without 0", plain.equals(Bench.number(y, tail, what)));
                }
            }
            due.is("the STATISTIC", y.result(1), x.result(1));
            due.is("ways of nothing above 0", y.ways(0), 1);
        }
        ExactTests x = new ExactTests();
        x.pair(3, 5);
        due.is("first less second is below 0", x.signs(0), 0);
        x.pair(5, 3);
        due.is("first less second is above 0", x.signs(0), 2);
        x.pair(-1000, -1000);
        x.pair(1000, 1000);
        due.is("like numbers are no difference", x.result(2), 2);
    }

    private static void ranksOfSizes() {
        due.sentence("Terms 2", "SIGNED TEST: likewise, with RANKS of sizes (among those that are not 0) in place of the sizes");
        // Sizes 2000 1 1 7: ranks 8 3 3 6.
        ExactTests x = signed(1, 2000, -1, 0, 1, 7);
        due.is("the STATISTIC", x.result(1), 17);
        due.is("ways(20)", x.ways(20), 1);
        due.is("ways(3)", x.ways(3), 2);
        due.is("ways(1)", x.ways(1), 0);
        due.is("rank of 2000", x.rank(2, 0), 8);
        due.is("rank of 1", x.rank(2, 1), 3);
        due.is("rank of 0", x.rank(2, 2), 0);
        due.is("rank of 7", x.rank(2, 4), 6);
    }

    private static void signsAlone() {
        due.sentence("Terms 2", "SIGN TEST: likewise, with 1 in place of each");
        ExactTests x = signed(2, 2000, -1, 0, 1, 7);
        due.is("the STATISTIC", x.result(1), 3);
        for (int s = 0; s <= 4; s++) {
            due.is("ways(" + s + ")", x.ways(s), new long[] {1, 4, 6, 4, 1}[s]);
        }
        due.is("ways(5)", x.ways(5), 0);
    }

    private static void resultsStay() {
        due.sentence("Terms 2", "RESULTS stay until the next TEST that goes, whatever is changed behind it");
        ExactTests x = labelled(Bench.of(2), 1, 2, 3, 3);
        x.clear(0);
        due.is("SAMPLES are empty: labels", x.labels(0), -1000000003);
        due.is("no PAIRS: signs", x.signs(0), -1000000003);
        due.is("0 in all: tables", x.tables(), -5);
        Bench.tooManyCases(x);
        due.is("too many: tables", x.tables(), -7);
        x.pair(9, 1);
        x.sample(0, 9);
        x.clear(1);
        x.clear(2);
        x.clear(3);
        due.chances("still", x, 1, 1, 3, 5, 4, 5, 2, 5);
        for (int what = 0; what < 3; what++) {
            due.is("result(" + what + ")", x.result(what), new int[] {1, 2, 5}[what]);
        }
        due.is("ways(3)", x.ways(3), 2);
        due.is("ways(9)", x.ways(9), 0);
        Bench.fill(x, 2, 2, 1, 0, 0, 1);
        due.is("a TEST that goes", x.tables(), 2);
        due.chances("the next", x, 1, 1, 1, 1, 1, 2, 1, 2);
    }

    /** What RESULTS and CASES answer. */
    private static List<Long> resultsOf(ExactTests x) {
        List<Long> all = new ArrayList<>();
        for (int what = 0; what <= 2; what++) {
            all.add((long) x.result(what));
        }
        for (int tail = 0; tail <= 3; tail++) {
            all.add(Bench.number(x, tail, 0).longValue());
            all.add(Bench.number(x, tail, 1).longValue());
            all.add((long) x.figure(tail, 7));
            all.add((long) x.against(tail, 1, 3));
        }
        for (int s = 0; s <= 12; s++) {
            all.add(x.ways(s));
            all.add((long) x.weighs(s));
            all.add((long) x.caseAt(s, 1, 1));
        }
        all.add((long) x.told(7));
        return all;
    }

    private static void resultsOfEachTestStay() {
        due.sentence("Terms 2", "RESULTS stay until the next TEST that goes, whatever is changed behind it");
        for (int test = 0; test <= 5; test++) {
            ExactTests x = new ExactTests();
            Bench.fill(x, 2, 3, 2, 0, 2, 1, 3, 2);
            Bench.samples(x, Bench.of(3, 5, 5), Bench.of(1, 3));
            Bench.differences(x, 2, 0, -4, -2, 7);
            int answer = test == 0 ? x.tables() : test < 3 ? x.labels(test - 1) : x.signs(test - 3);
            due.isTrue("test " + test + " went", answer > 0);
            List<Long> before = resultsOf(x);
            x.sample(0, 9);
            x.sample(1, -9);
            x.pair(1, 9);
            x.cell(0, 0, 1);
            x.cell(1, 1, 0);
            due.isTrue("test " + test + ", more is told", resultsOf(x).equals(before));
            x.table(5, 1);
            x.clear(0);
            x.clear(1);
            due.isTrue("test " + test + ", all is emptied", resultsOf(x).equals(before));
        }
    }

    /** Notes 1 / 2^n. */
    private static int noteHalves(ExactTests x, int n) {
        x.clear(1);
        for (int i = 0; i < n; i++) {
            x.pair(1, 0);
        }
        x.signs(2);
        return x.note(2);
    }

    private static void listOfTwelve() {
        due.sentence("Terms 3", "THE LIST has up to 12 chances");
        ExactTests x = new ExactTests();
        for (int i = 1; i <= 12; i++) {
            due.is("note", noteHalves(x, i), i);
        }
        due.is("a 13th", noteHalves(x, 13), -4);
        due.is("12 there", x.told(3), 12);
        due.is("the 12th is there", x.isRejected(11, 1, 1), 1);
        due.is("no 13th is", x.isRejected(12, 1, 1), -1);
    }

    private static void likeChances() {
        due.sentence("Terms 3", "they are put in order, the least first (of like ones the one noted first)");
        int[][] orders = {{4, 1, 2}, {4, 2, 1}, {1, 4, 2}, {2, 4, 1}, {1, 2, 4}, {2, 1, 4}};
        for (int[] halves : orders) {
            ExactTests x = new ExactTests();
            for (int n : halves) {
                noteHalves(x, n);
            }
            // A third of 1 / 4 lets 1 / 16 pass, a half of it does not let 1 / 4 pass.
            for (int i = 0; i < 3; i++) {
                due.is(halves[i] + " halves", x.isRejected(i, 1, 4), halves[i] == 4 ? 1 : 0);
            }
            // 1 / 2 lets all pass by steps of 1 / 6, 1 / 4, 1 / 2.
            due.is("all", x.rejected(1, 2), 3);
        }
        ExactTests y = new ExactTests();
        for (int i = 0; i < 12; i++) {
            noteHalves(y, i % 2 == 0 ? 2 : 5);
        }
        // 12 / 32 is just enough for the six of 1 / 32; then 1 / 4 is held against 1 / 16.
        due.is("six of twelve", y.rejected(3, 8), 6);
        for (int i = 0; i < 12; i++) {
            due.is("of like ones all, " + i, y.isRejected(i, 3, 8), i % 2);
        }
        due.is("none below 12 / 32", y.rejected(374999, 1000000), 0);
        due.is("all at 6 / 4", y.rejected(3, 2), 12);
        due.is("six below 6 / 4", y.rejected(149999, 100000), 6);
    }

    private static void levelsByStep() {
        due.sentence("Terms 3", "the k-th of n (from 0) is REJECTED, if it .. not above u / v divided by n - k");
        for (int n = 1; n <= 12; n++) {
            ExactTests x = new ExactTests();
            Bench.differences(x, 1, 1, 1);
            x.signs(2);
            for (int i = 0; i < n; i++) {
                x.note(2);
            }
            due.is(n + " of 1 / 8 at " + n + " / 8", x.rejected(n, 8), n);
            due.is(n + " of 1 / 8 just below", x.rejected(n * 10000 - 1, 80000), 0);
            due.is(n + " of 1 / 8 just above", x.rejected(n * 80000 + 1, 640000), n);
        }
    }

    private static void allAhead() {
        due.sentence("Terms 3", "and all ahead of it");
        ExactTests x = new ExactTests();
        noteHalves(x, 2);
        noteHalves(x, 2);
        // The last of two alone would pass at 1 / 4, the first of them does not pass at 1 / 8.
        due.is("none", x.rejected(1, 4), 0);
        due.is("the last", x.isRejected(1, 1, 4), 0);
        due.is("both at 1 / 2", x.rejected(1, 2), 2);
        x.clear(2);
        noteHalves(x, 5);
        noteHalves(x, 2);
        noteHalves(x, 2);
        // 1 / 32 passes a third of 1 / 4, 1 / 4 does not pass 1 / 8; the last would pass 1 / 4.
        due.is("the least alone", x.rejected(1, 4), 1);
        due.is("the last", x.isRejected(2, 1, 4), 0);
    }

    private static int shiftOf(int[] a, int... b) {
        ExactTests x = new ExactTests();
        Bench.samples(x, a, b);
        return x.shift();
    }

    private static void shiftOfOdd() {
        due.sentence("Terms 3", "all differences of a number of A less one of B, in order; twice the one in the midst");
        due.is("one", shiftOf(Bench.of(4), 7), -6);
        due.is("the greatest", shiftOf(Bench.of(1000), -1000), 4000);
        due.is("the least", shiftOf(Bench.of(-1000), 1000), -4000);
        due.is("three", shiftOf(Bench.of(9, -4, 1), 0), 2);
        // 0 1 5 less 0 2 7: -7 -6 -2 -2 -1 0 1 3 5
        due.is("nine", shiftOf(Bench.of(5, 0, 1), 2, 7, 0), -2);
        int[] a = new int[15];
        int[] b = new int[15];
        for (int i = 0; i < 15; i++) {
            a[i] = -1000;
            b[i] = i < 7 ? 1000 : -1000;
        }
        due.is("225, the 113th is 0", shiftOf(a, b), 0);
        b[7] = 1000;
        due.is("225, the 113th is -2000", shiftOf(a, b), -4000);
    }

    private static void shiftOfEven() {
        due.sentence("Terms 3", "or the sum of the two there");
        due.is("two", shiftOf(Bench.of(1, 10), 4), 3);
        due.is("two, an odd sum below 0", shiftOf(Bench.of(1, 2), 4), -5);
        due.is("four", shiftOf(Bench.of(0, 10), 0, 3), 7);
        due.is("two far apart", shiftOf(Bench.of(1000, -1000), 0), 0);
        due.is("two at the end", shiftOf(Bench.of(1000, 1000), -1000), 4000);
        due.is("two at the other end", shiftOf(Bench.of(-1000), 1000, 1000), -4000);
    }
}
