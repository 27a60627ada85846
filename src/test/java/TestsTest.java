/** Promises 8 to 13: the tests themselves, ranks and the cases kept. */
public final class TestsTest {
    private static final int LEAST = Integer.MIN_VALUE, GREATEST = Integer.MAX_VALUE;
    private static final Due due = new Due();

    public static void main(String[] args) {
        tablesRefused();
        tablesOfTwoByTwo();
        tablesAtTheEdges();
        tablesWithMostCases();
        tablesCountedByAProduct();
        labels();
        labelsFarFromAMiddleThatIsNoWholeNumber();
        labelsFull();
        signs();
        signsFull();
        ranks();
        casesStay();
        due.close();
    }

    private static void tablesRefused() {
        ExactTests x = new ExactTests();
        due.is("8: nothing in all", x.tables(), -5);
        due.is("8: no RESULTS", x.result(0), -1000000003);
        due.is("12: none went", x.caseAt(0, 0, 0), -3);
        due.is("12: STATE is ahead", x.caseAt(-1, 9, 9), -3);
        due.is("13: none went", x.weighs(0), -30);
        due.is("13: STATE is ahead", x.weighs(-1), -30);
        Bench.fill(x, 2, 2, 3, 1, 1, 3);
        due.is("8: tables()", x.tables(), 5);
        Bench.tooManyCases(x);
        due.is("8: more than 20000", x.tables(), -7);
        x.table(3, 3);
        due.is("8: nothing in all again", x.tables(), -5);
        due.is("8: refused, CASES are as they were", x.told(7), 5);
        due.is("8: refused, caseAt(3, 1, 1)", x.caseAt(3, 1, 1), 3);
        due.is("8: refused, caseAt(3, 2, 2)", x.caseAt(3, 2, 2), -1);
        due.is("8: refused, weighs(3)", x.weighs(3), 0);
        due.is("8: refused, RESULTS are as they were", x.result(1), 3);
        due.chances("8: refused", x, 17, 35, 69, 70, 17, 70, 8, 35);
    }

    private static void tablesOfTwoByTwo() {
        ExactTests x = new ExactTests();
        Bench.fill(x, 2, 2, 3, 1, 1, 3);
        due.is("8: tables()", x.tables(), 5);
        due.is("8: the TEST", x.result(0), 0);
        due.is("8: the STATISTIC", x.result(1), 3);
        due.is("8: all in all", x.result(2), 8);
        due.chances("8: (3 1 / 1 3)", x, 17, 35, 69, 70, 17, 70, 8, 35);
        int[] order = {-1, 0, 1, 0, -1};
        for (int i = 0; i < 5; i++) {
            due.is("12: caseAt(" + i + ", 0, 0)", x.caseAt(i, 0, 0), i);
            due.is("12: caseAt(" + i + ", 0, 1)", x.caseAt(i, 0, 1), 4 - i);
            due.is("12: caseAt(" + i + ", 1, 0)", x.caseAt(i, 1, 0), 4 - i);
            due.is("12: caseAt(" + i + ", 1, 1)", x.caseAt(i, 1, 1), i);
            due.is("13: weighs(" + i + ")", x.weighs(i), order[i]);
        }
        due.is("12: caseAt(5, 0, 0)", x.caseAt(5, 0, 0), -1);
        due.is("12: caseAt(-1, 0, 0)", x.caseAt(-1, 0, 0), -1);
        due.is("12: caseAt(0, 2, 0)", x.caseAt(0, 2, 0), -1);
        due.is("12: caseAt(0, 0, 2)", x.caseAt(0, 0, 2), -1);
        due.is("12: caseAt(0, -1, 0)", x.caseAt(0, -1, 0), -1);
        due.is("12: caseAt(0, 0, least)", x.caseAt(0, 0, LEAST), -1);
        due.is("12: caseAt(greatest, 0, 0)", x.caseAt(GREATEST, 0, 0), -1);
        due.is("13: weighs(5)", x.weighs(5), -10);
        due.is("13: weighs(-1)", x.weighs(-1), -10);
        due.is("13: weighs(greatest)", x.weighs(GREATEST), -10);
        Bench.fill(x, 2, 2, 1, 9, 11, 3);
        due.is("8: tables() of (1 9 / 11 3)", x.tables(), 11);
        // A table of many books, whose two-sided chance is told as 0.002759456.
        int[] figures = {0, 0, 0, 2, 7, 5, 9, 4, 5, 6};
        for (int i = 0; i < figures.length; i++) {
            due.is("8: FAR of (1 9 / 11 3), figure " + i, x.figure(0, i), figures[i]);
        }
    }

    private static void tablesAtTheEdges() {
        ExactTests x = new ExactTests();
        Bench.fill(x, 1, 1, 60);
        due.is("8: one cell", x.tables(), 1);
        due.chances("8: one cell", x, 1, 1, 1, 1, 1, 1, 1, 1);
        due.is("12: one cell", x.caseAt(0, 0, 0), 60);
        due.is("13: one cell", x.weighs(0), 0);
        Bench.fill(x, 1, 5, 1, 2, 3, 4, 50);
        due.is("8: one row", x.tables(), 1);
        due.is("12: one row", x.caseAt(0, 0, 4), 50);
        Bench.fill(x, 5, 1, 1, 2, 3, 4, 50);
        due.is("8: one column", x.tables(), 1);
        due.is("12: one column", x.caseAt(0, 4, 0), 50);
        due.chances("8: one column", x, 1, 1, 1, 1, 1, 1, 1, 1);
        Bench.fill(x, 5, 5, 1, 0, 0, 0, 0, 0, 1, 0, 0, 0, 0, 0, 1, 0, 0, 0, 0, 0, 1, 0, 0, 0, 0, 0, 1);
        due.is("8: ones in all ways", x.tables(), 120);
        due.chances("8: ones in all ways", x, 1, 1, 1, 1, 1, 5, 1, 120);
        due.is("12: the first in order ends in the first column", x.caseAt(0, 4, 0), 1);
        due.is("12: the first in order", x.caseAt(0, 0, 4), 1);
        due.is("12: the last in order", x.caseAt(119, 4, 4), 1);
        Bench.fill(x, 2, 2, 30, 0, 0, 30);
        due.is("8: thirty and thirty", x.tables(), 31);
        due.is("8: thirty and thirty, bits of JUST", x.bits(3, 1), 57);
        long lower = 0;
        for (int k = 3; k >= 0; k--) {
            lower = lower << 16 | x.word(3, 1, k);
        }
        due.is("8: thirty out of sixty", lower, 118264581564861424L);
        due.is("8: FAR is twice that", x.bits(0, 1), 56);
        due.is("8: LOW is all", x.bits(1, 1), 1);
        due.is("8: a corner that can't be otherwise", x.against(2, 1, 1000000), -1);
        Bench.fill(x, 3, 3, 0, 0, 0, 0, 7, 0, 0, 0, 0);
        due.is("8: MARGINS of 0", x.tables(), 1);
        due.is("12: MARGINS of 0", x.caseAt(0, 1, 1), 7);
    }

    private static void tablesWithMostCases() {
        ExactTests x = new ExactTests();
        Bench.fill(x, 3, 3, 6, 6, 6, 6, 6, 6, 6, 6, 6);
        due.is("8: MARGINS of 18", x.tables(), 18145);
        due.is("26: kept", x.told(7), 18145);
        due.is("8: the heaviest", x.against(0, 1, 1), 0);
        due.is("12: last case", x.caseAt(18144, 0, 0), 18);
        due.is("13: last case", x.weighs(18144), -1);
        due.is("12: beyond", x.caseAt(18145, 0, 0), -1);
        Bench.margins(x, Bench.of(9, 12, 10, 1, 0), 11, 11, 9, 1);
        due.is("8: just 20000", x.tables(), 20000);
        due.is("12: the last of 20000", x.caseAt(19999, 0, 0), 9);
        due.is("12: beyond the last of 20000", x.caseAt(20000, 0, 0), -1);
        Bench.margins(x, Bench.of(17, 17, 4, 4), 19, 13, 10);
        due.is("8: just 20000, in another shape", x.tables(), 20000);
        due.is("13: the last of 20000", x.weighs(19999), 0);
        Bench.margins(x, Bench.of(13, 7, 4, 3), 3, 3, 10, 11);
        due.is("8: just 20001", x.tables(), -7);
        Bench.margins(x, Bench.of(17, 10, 4), 11, 9, 4, 5, 2);
        due.is("8: just 20001, in another shape", x.tables(), -7);
        due.is("8: refused, CASES are as they were", x.told(7), 20000);
        due.is("8: refused, their shape too", x.caseAt(0, 3, 2), 0);
        due.is("8: refused, RESULTS are as they were", x.result(2), 42);
    }

    /** Where the last column can take any rest, the cases are the columns' numbers plus 1, multiplied. */
    private static void tablesCountedByAProduct() {
        ExactTests x = new ExactTests();
        Bench.fill(x, 2, 5, 1, 4, 4, 7, 0, 0, 0, 0, 0, 44);
        due.is("8: 2 * 5 * 5 * 8", x.tables(), 400);
        Bench.fill(x, 2, 5, 9, 9, 9, 1, 0, 0, 0, 0, 0, 28);
        due.is("8: 10 * 10 * 10 * 2", x.tables(), 2000);
        Bench.fill(x, 2, 5, 7, 7, 7, 8, 0, 0, 0, 0, 0, 29);
        due.is("8: 8 * 8 * 8 * 9", x.tables(), 4608);
        Bench.fill(x, 5, 2, 7, 0, 7, 0, 7, 0, 8, 0, 0, 29);
        due.is("8: the same, turned", x.tables(), 4608);
    }

    private static void labels() {
        ExactTests x = new ExactTests();
        due.is("9: both are empty", x.labels(0), -1000000003);
        due.is("9: UNKNOWN is ahead", x.labels(2), -1000000001);
        x.sample(0, 3);
        due.is("9: B is empty", x.labels(0), -1000000003);
        x.clear(0);
        x.sample(1, 3);
        due.is("9: A is empty", x.labels(1), -1000000003);
        due.is("9: no RESULTS yet", x.result(0), -1000000003);
        x.sample(0, 3);
        x.sample(0, 5);
        x.sample(0, 5);
        x.sample(1, 1);
        due.is("9: LABEL TEST", x.labels(0), 13);
        due.is("9: the TEST", x.result(0), 1);
        // Three of 3 5 5 3 1: the sum 13 comes twice, 11 three times, 9 four times, 7 once.
        due.chances("9: LABEL TEST", x, 3, 10, 1, 1, 1, 5, 1, 5);
        due.is("9: RANK TEST", x.labels(1), 23);
        due.is("9: the TEST", x.result(0), 2);
        due.is("9: labels(-1)", x.labels(-1), -1000000001);
        due.is("9: labels(greatest)", x.labels(GREATEST), -1000000001);
        due.is("9: refused, RESULTS as they were", x.result(0), 2);
        ExactTests y = new ExactTests();
        for (int i = 1; i <= 3; i++) {
            y.sample(0, -i);
            y.sample(1, i);
        }
        due.is("9: below 0", y.labels(0), -6);
        due.chances("9: three below, three above", y, 1, 10, 1, 20, 1, 1, 1, 20);
        due.is("9: ranks 1, 2, 3", y.labels(1), 12);
        due.chances("9: ranks 1, 2, 3", y, 1, 10, 1, 20, 1, 1, 1, 20);
        due.is("19: sums of ten", y.ways(20), 3);
    }

    private static void labelsFarFromAMiddleThatIsNoWholeNumber() {
        ExactTests x = new ExactTests();
        x.sample(0, 0);
        x.sample(1, 0);
        x.sample(1, 1);
        due.is("9: 0 out of 0 0 1", x.labels(0), 0);
        due.chances("9: 0 out of 0 0 1", x, 1, 1, 2, 3, 1, 1, 2, 3);
        x.clear(0);
        x.sample(0, 1);
        x.sample(1, 0);
        x.sample(1, 0);
        due.is("9: 1 out of 0 0 1", x.labels(0), 1);
        due.chances("9: 1 out of 0 0 1", x, 1, 3, 1, 1, 1, 3, 1, 3);
        x.clear(0);
        x.sample(0, -1);
        x.sample(1, 0);
        x.sample(1, 0);
        x.sample(1, -3);
        due.is("9: -1 out of -3 -1 0 0, the middle", x.labels(0), -1);
        due.chances("9: -1 out of -3 -1 0 0", x, 1, 1, 1, 2, 3, 4, 1, 4);
        x.clear(0);
        x.sample(0, 0);
        x.sample(1, -2);
        x.sample(1, -4);
        due.is("9: just as far on the other side", x.labels(0), 0);
        due.chances("9: 0 out of -4 -2 0", x, 2, 3, 1, 1, 1, 3, 1, 3);
        x.clear(0);
        x.sample(0, 7);
        x.sample(0, 7);
        x.sample(1, 7);
        due.is("9: all alike", x.labels(0), 14);
        due.chances("9: all alike", x, 1, 1, 1, 1, 1, 1, 1, 1);
        due.is("19: all alike", x.ways(14), 3);
    }

    private static void labelsFull() {
        ExactTests x = new ExactTests();
        for (int i = 0; i < 15; i++) {
            x.sample(0, 1000 - i);
            x.sample(1, -1000 + i * i);
        }
        due.is("9: full", x.labels(0), 14895);
        // The other half is just as far from the middle.
        due.chances("9: full", x, 1, 77558760, 1, 1, 1, 155117520, 1, 155117520);
        due.is("9: full, ranks", x.labels(1), 2 * (16 + 30) * 15 / 2);
        due.chances("9: full, ranks", x, 1, 77558760, 1, 1, 1, 155117520, 1, 155117520);
        ExactTests y = new ExactTests();
        for (int i = 0; i < 15; i++) {
            y.sample(0, -1000);
            y.sample(1, 1000);
        }
        due.is("9: the least sum", y.labels(0), -15000);
        due.chances("9: the least sum", y, 1, 77558760, 1, 155117520, 1, 1, 1, 155117520);
        due.is("19: seven of fifteen, eight of fifteen", y.ways(1000), 6435L * 6435);
        due.is("19: the greatest sum", y.ways(15000), 1);
        due.is("19: between", y.ways(14999), 0);
    }

    private static void signs() {
        ExactTests x = new ExactTests();
        due.is("10: no PAIRS", x.signs(0), -1000000003);
        due.is("10: UNKNOWN is ahead", x.signs(3), -1000000001);
        x.pair(4, 4);
        due.is("10: all differences are 0", x.signs(2), -1000000003);
        x.pair(5, 3);
        x.pair(2, 6);
        x.pair(0, 2);
        due.is("10: FLIP TEST", x.signs(0), 2);
        due.is("10: the TEST", x.result(0), 3);
        due.is("10: differences that are not 0", x.result(2), 3);
        // Sizes 2 4 2: sums 0 and 8 come once, 2, 4 and 6 twice; the middle is 4.
        due.chances("10: FLIP TEST", x, 3, 4, 3, 8, 7, 8, 1, 4);
        due.is("10: SIGNED TEST", x.signs(1), 3);
        due.is("10: the TEST", x.result(0), 4);
        due.chances("10: SIGNED TEST", x, 3, 4, 3, 8, 7, 8, 1, 4);
        due.is("10: SIGN TEST", x.signs(2), 1);
        due.is("10: the TEST", x.result(0), 5);
        due.chances("10: SIGN TEST", x, 1, 1, 1, 2, 7, 8, 3, 8);
        due.is("10: signs(-1)", x.signs(-1), -1000000001);
        due.is("10: signs(least)", x.signs(LEAST), -1000000001);
        due.is("10: refused, RESULTS as they were", x.result(0), 5);
        ExactTests y = new ExactTests();
        y.pair(-1, 1);
        due.is("10: one difference, below 0", y.signs(0), 0);
        due.chances("10: one difference", y, 1, 1, 1, 2, 1, 1, 1, 2);
    }

    private static void signsFull() {
        ExactTests x = new ExactTests();
        for (int i = 0; i < 30; i++) {
            x.pair(1000, -1000 + i);
        }
        due.is("10: full", x.signs(0), 60000 - 29 * 15);
        due.chances("10: full", x, 1, 1 << 29, 1, 1, 1, 1 << 30, 1, 1 << 30);
        due.is("10: full, ranks", x.signs(1), 930);
        due.chances("10: full, ranks", x, 1, 1 << 29, 1, 1, 1, 1 << 30, 1, 1 << 30);
        due.is("10: full, signs", x.signs(2), 30);
        due.is("19: half of thirty", x.ways(15), 155117520);
        ExactTests y = new ExactTests();
        for (int i = 0; i < 30; i++) {
            y.pair(1000, -1000);
        }
        due.is("10: the greatest sum", y.signs(0), 60000);
        due.is("19: the greatest sum", y.ways(60000), 1);
        due.is("19: half of it", y.ways(30000), 155117520);
        due.is("19: beyond it", y.ways(60001), 0);
    }

    private static void ranks() {
        ExactTests x = new ExactTests();
        due.is("11: nothing there", x.rank(0, 0), -1);
        x.sample(0, 3);
        due.is("11: alone", x.rank(0, 0), 2);
        x.sample(0, 5);
        x.sample(0, 5);
        x.sample(1, 1);
        x.sample(1, 3);
        x.sample(1, 5);
        int[] ofA = {5, 10, 10};
        int[] ofB = {2, 5, 10};
        for (int i = 0; i < 3; i++) {
            due.is("11: rank(0, " + i + ")", x.rank(0, i), ofA[i]);
            due.is("11: rank(1, " + i + ")", x.rank(1, i), ofB[i]);
        }
        due.is("11: rank(0, 3)", x.rank(0, 3), -1);
        due.is("11: rank(1, -1)", x.rank(1, -1), -1);
        due.is("11: rank(2, 0)", x.rank(2, 0), -1);
        due.is("11: rank(3, 0)", x.rank(3, 0), -1);
        due.is("11: rank(-1, 0)", x.rank(-1, 0), -1);
        due.is("11: rank(0, greatest)", x.rank(0, GREATEST), -1);
        due.is("11: rank(2, least)", x.rank(2, LEAST), -1);
        int[] differences = {2, 0, -2, 5, 1, 0, -1, -1};
        int[] ranks = {9, 0, 9, 12, 4, 0, 4, 4};
        for (int d : differences) {
            x.pair(d, 0);
        }
        for (int i = 0; i < ranks.length; i++) {
            due.is("11: rank(2, " + i + ")", x.rank(2, i), ranks[i]);
        }
        due.is("11: rank(2, 8)", x.rank(2, 8), -1);
    }

    private static void casesStay() {
        ExactTests x = new ExactTests();
        Bench.fill(x, 2, 3, 4, 0, 2, 1, 5, 2);
        due.is("8: tables()", x.tables(), 23);
        x.table(1, 1);
        x.cell(0, 0, 5);
        x.pair(1, 0);
        due.is("10: signs(2)", x.signs(2), 1);
        due.is("12: caseAt of the table that was seen", x.caseAt(0, 1, 0), 5);
        due.is("12: the last column", x.caseAt(22, 0, 2), 0);
        due.is("13: weighs(0)", x.weighs(0), -1);
        due.is("26: CASES kept", x.told(7), 23);
        due.is("8: RESULTS are those of signs", x.result(0), 5);
        due.is("8: another table", x.tables(), 1);
        due.is("12: CASES are those of the latest", x.caseAt(0, 0, 0), 5);
        due.is("12: and have its shape", x.caseAt(0, 1, 0), -1);
    }
}
