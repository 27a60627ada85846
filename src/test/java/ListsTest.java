/** Promises 20 to 25: the list, what is claimed, and the shift. */
public final class ListsTest {
    private static final int LEAST = Integer.MIN_VALUE, GREATEST = Integer.MAX_VALUE;
    private static final Due due = new Due();

    public static void main(String[] args) {
        note();
        rejected();
        isRejected();
        allAheadMustBeRejectedToo();
        claim();
        check();
        checkOfLongNumbers();
        shift();
        due.close();
    }

    /** Notes 1 / 2^n, which is HIGH where all n differences are above 0. */
    private static int noteHalves(ExactTests x, int n) {
        x.clear(1);
        for (int i = 0; i < n; i++) {
            x.pair(1, 0);
        }
        x.signs(2);
        return x.note(2);
    }

    private static void note() {
        ExactTests x = new ExactTests();
        due.is("20: no RESULTS", x.note(0), -3);
        due.is("20: STATE is ahead", x.note(9), -3);
        for (int i = 1; i <= 12; i++) {
            due.is("20: note", noteHalves(x, i), i);
            due.is("20: note(4)", x.note(4), -1);
            due.is("20: note(-1)", x.note(-1), -1);
        }
        due.is("20: full", x.note(0), -4);
        due.is("20: UNKNOWN is ahead of FULL", x.note(GREATEST), -1);
        due.is("20: as many as were", x.told(3), 12);
        due.is("20: all differ", x.rejected(1, 1), 12);
        due.is("20: emptied", x.clear(2), 12);
        due.is("20: anew", x.note(3), 1);
    }

    private static void rejected() {
        ExactTests x = new ExactTests();
        due.is("21: none there", x.rejected(1, 1), 0);
        noteHalves(x, 3);
        noteHalves(x, 1);
        noteHalves(x, 2);
        // In order 1 / 8, 1 / 4, 1 / 2, held against a third, a half, the whole of the level.
        due.is("21: at 1 / 2, all just so", x.rejected(1, 2), 3);
        due.is("21: at 49 / 100", x.rejected(49, 100), 1);
        due.is("21: at 499999 / 1000000", x.rejected(499999, 1000000), 1);
        due.is("21: at 3 / 8", x.rejected(3, 8), 1);
        due.is("21: at 374999 / 1000000", x.rejected(374999, 1000000), 0);
        due.is("21: at 0", x.rejected(0, 1), 0);
        due.is("21: at 1000000", x.rejected(1000000, 1), 3);
        int[][] wrong = {{-1, 1}, {1000001, 1}, {1, 0}, {1, -1}, {1, 1000001}, {LEAST, 1}, {1, GREATEST}};
        for (int[] level : wrong) {
            due.is("21: at " + level[0] + " / " + level[1], x.rejected(level[0], level[1]), -2);
        }
        ExactTests y = new ExactTests();
        for (int i = 0; i < 12; i++) {
            noteHalves(y, 30);
        }
        due.is("21: twelve of 1 / 2^30, at 1 / 1000000", y.rejected(1, 1000000), 12);
        due.is("21: twelve of 1 / 2^30, at 0", y.rejected(0, 1000000), 0);
    }

    private static void isRejected() {
        ExactTests x = new ExactTests();
        due.is("22: none there", x.isRejected(0, 1, 1), -1);
        noteHalves(x, 1);
        noteHalves(x, 3);
        noteHalves(x, 2);
        int[] atHalf = {1, 1, 1};
        int[] atLess = {0, 1, 0};
        for (int i = 0; i < 3; i++) {
            due.is("22: isRejected(" + i + ", 1, 2)", x.isRejected(i, 1, 2), atHalf[i]);
            due.is("22: isRejected(" + i + ", 49, 100)", x.isRejected(i, 49, 100), atLess[i]);
            due.is("22: isRejected(" + i + ", 0, 1)", x.isRejected(i, 0, 1), 0);
        }
        due.is("22: isRejected(3, 1, 2)", x.isRejected(3, 1, 2), -1);
        due.is("22: isRejected(-1, 1, 2)", x.isRejected(-1, 1, 2), -1);
        due.is("22: isRejected(least, 1, 2)", x.isRejected(LEAST, 1, 2), -1);
        due.is("22: isRejected(3, 1, 0): UNKNOWN is ahead", x.isRejected(3, 1, 0), -1);
        due.is("22: isRejected(0, 1, 0)", x.isRejected(0, 1, 0), -2);
        due.is("22: isRejected(0, -1, 1)", x.isRejected(0, -1, 1), -2);
        due.is("22: isRejected(0, 1000001, 1)", x.isRejected(0, 1000001, 1), -2);
        due.is("22: isRejected(0, 1, 1000001)", x.isRejected(0, 1, 1000001), -2);
        x.clear(2);
        due.is("22: emptied", x.isRejected(0, 1, 2), -1);
    }

    private static void allAheadMustBeRejectedToo() {
        ExactTests x = new ExactTests();
        noteHalves(x, 3);
        noteHalves(x, 3);
        noteHalves(x, 3);
        due.is("21: 1 / 8 is above a tenth, so none", x.rejected(3, 10), 0);
        due.is("22: the last is not above 3 / 10, but those ahead are", x.isRejected(2, 3, 10), 0);
        due.is("21: 1 / 8 is not above 3 / 24", x.rejected(3, 8), 3);
        noteHalves(x, 6);
        // Of four: 1 / 64 against a fourth of 3 / 10, then 1 / 8 against a third of it.
        due.is("21: the one that came last is the least", x.rejected(3, 10), 1);
        due.is("22: it is rejected", x.isRejected(3, 3, 10), 1);
        due.is("22: the first is not", x.isRejected(0, 3, 10), 0);
    }

    private static void claim() {
        ExactTests x = new ExactTests();
        due.is("23: claim(-1)", x.claim(-1), -2);
        due.is("23: claim(65536)", x.claim(65536), -2);
        due.is("23: claim(least)", x.claim(LEAST), -2);
        for (int i = 1; i <= 40; i++) {
            due.is("23: claim", x.claim(i % 2 == 0 ? 0 : 65535), i);
        }
        due.is("23: full", x.claim(1), -4);
        due.is("23: OUTSIDE is ahead of FULL", x.claim(65536), -2);
        due.is("23: as many as were", x.told(4), 40);
        due.is("23: emptied", x.clear(3), 40);
        due.is("23: anew", x.claim(7), 1);
    }

    private static void check() {
        ExactTests x = new ExactTests();
        due.is("24: no RESULTS", x.check(0), -30);
        due.is("24: STATE is ahead", x.check(4), -30);
        x.claim(8);
        x.claim(5);
        x.pair(3, 1);
        x.pair(7, 2);
        x.pair(1, 3);
        x.pair(9, 8);
        x.signs(2);
        due.is("24: FAR is 5 / 8", x.check(0), 1);
        due.is("24: LOW is 15 / 16", x.check(1), -100);
        due.is("24: HIGH is 5 / 16", x.check(2), -100);
        due.is("24: check(4)", x.check(4), -10);
        due.is("24: check(-1)", x.check(-1), -10);
        due.is("24: check(least)", x.check(LEAST), -10);
        x.claim(0);
        due.is("24: one too many", x.check(0), -102);
        x.claim(0);
        due.is("24: two too many", x.check(0), -102);
        x.clear(3);
        due.is("24: nothing claimed", x.check(0), -100);
        x.claim(8);
        due.is("24: the upper one lacks", x.check(0), -101);
        x.claim(6);
        due.is("24: the upper one is another", x.check(0), -101);
        due.is("24: what is CLAIMED stays", x.told(4), 2);
    }

    private static void checkOfLongNumbers() {
        ExactTests x = new ExactTests();
        Bench.fill(x, 2, 2, 30, 0, 0, 30);
        x.tables();
        long lower = 118264581564861424L;
        for (int k = 0; k < 4; k++) {
            due.is("24: " + k + " words, one lacks", x.check(3), -100 - k);
            x.claim((int) (lower >>> 16 * k & 65535));
        }
        due.is("24: the upper number lacks", x.check(3), -104);
        x.claim(1);
        due.is("24: four words and one", x.check(3), 1);
        due.is("24: HIGH is the same", x.check(2), 1);
        due.is("24: FAR is another", x.check(0), -100);
    }

    private static void shift() {
        ExactTests x = new ExactTests();
        due.is("25: both are empty", x.shift(), -1000000003);
        x.sample(0, 1000);
        due.is("25: B is empty", x.shift(), -1000000003);
        x.sample(1, -1000);
        due.is("25: one difference, the greatest", x.shift(), 4000);
        x.clear(0);
        x.sample(1, 1000);
        due.is("25: A is empty", x.shift(), -1000000003);
        x.sample(0, -1000);
        due.is("25: one difference, the least", x.shift(), -4000);
        x.clear(0);
        x.sample(0, 1);
        x.sample(0, 10);
        x.sample(1, 4);
        // -3 and 6
        due.is("25: two differences", x.shift(), 3);
        x.sample(0, -5);
        // -9, -3, 6
        due.is("25: three differences", x.shift(), -6);
        x.sample(1, 5);
        // -10, -9, -4, -3, 5, 6
        due.is("25: six differences", x.shift(), -7);
        ExactTests y = new ExactTests();
        for (int i = 0; i < 15; i++) {
            y.sample(0, i);
            y.sample(1, -i);
        }
        due.is("25: full", y.shift(), 28);
    }
}
