import java.util.ArrayList;
import java.util.List;

/**
 * Every refused call with the answer that is due, which refusal is ahead where two fit, and that a
 * refused call changes nothing: two benches are told the same, one of them is asked what it refuses,
 * and then both must answer alike whatever can be asked. So, too, for calls that only read.
 */
public final class RefusedCallsTest {
    private static final int LOST = -1000000001;
    private static final int UNKNOWN = -1, OUTSIDE = -2, STATE = -3, FULL = -4, NO = -5, SPENT = -7;
    private static final int[] NOT_TAIL = Bench.beyond(0, 3);
    private static final int[] NOT_0_OR_1 = Bench.beyond(0, 1);
    private static final int[] NOT_U = Bench.beyond(0, 1000000);
    private static final int[] NOT_V = Bench.beyond(1, 1000000);
    private static final Due due = new Due();

    private interface Call {
        long on(ExactTests x);
    }

    private interface Scene {
        ExactTests make();
    }

    private final Scene scene;
    private final List<Long> before;

    private RefusedCallsTest(Scene scene) {
        this.scene = scene;
        this.before = answers(scene.make());
    }

    public static void main(String[] args) {
        RefusedCallsTest fresh = new RefusedCallsTest(ExactTests::new);
        RefusedCallsTest told = new RefusedCallsTest(RefusedCallsTest::told);
        RefusedCallsTest full = new RefusedCallsTest(RefusedCallsTest::full);
        RefusedCallsTest[] tested = new RefusedCallsTest[6];
        for (int test = 0; test < 6; test++) {
            int which = test;
            tested[test] = new RefusedCallsTest(() -> tested(which));
        }
        due.sentence("Terms", "Calls that are refused .. change nothing");
        withoutResults(fresh);
        withoutResults(told);
        for (RefusedCallsTest bench : tested) {
            tableAndCells(bench);
            whatIsTold(bench);
            chances(bench);
            listAndClaims(bench);
        }
        tests(tested[2]);
        cases(tested[0]);
        cases(tested[5]);
        waysOfTables(tested[0]);
        fullOnes(full);
        nothingToTest();
        tooManyCases();
        for (RefusedCallsTest bench : tested) {
            reading(bench);
        }
        reading(full);
        due.close();
    }

    /** What is refused, and that all is as it was. */
    private void refuses(String call, int answer, Call asked) {
        ExactTests x = scene.make();
        due.is(call, asked.on(x), answer);
        due.isTrue(call + " changes nothing", answers(x).equals(before));
    }

    private void refusesEach(String call, int[] numbers, int answer, Each asked) {
        for (int v : numbers) {
            refuses(call + " with " + v, answer, x -> asked.on(x, v));
        }
    }

    private interface Each {
        long on(ExactTests x, int v);
    }

    // ---- benches

    private static ExactTests told() {
        ExactTests x = new ExactTests();
        Bench.samples(x, Bench.of(3, 5, 5), Bench.of(1, 3));
        Bench.differences(x, 2, 0, -4, -2, 7);
        Bench.fill(x, 2, 3, 4, 0, 2, 1, 5, 2);
        return x;
    }

    /** One test of each kind has gone, this one last; its chance of tail 0 is claimed. */
    private static ExactTests tested(int test) {
        ExactTests x = told();
        for (int k = 1; k <= 6; k++) {
            int now = (test + k) % 6;
            if (now == 0) {
                x.tables();
            } else if (now < 3) {
                x.labels(now - 1);
            } else {
                x.signs(now - 3);
            }
            x.note(k % 4);
        }
        Bench.claimChance(x, 0);
        return x;
    }

    private static ExactTests full() {
        ExactTests x = new ExactTests();
        for (int i = 0; i < 15; i++) {
            x.sample(0, i * i);
            x.sample(1, -i);
        }
        for (int i = 0; i < 30; i++) {
            x.pair(i * i, 3 * i);
        }
        Bench.fill(x, 2, 2, 29, 1, 1, 29);
        x.tables();
        for (int i = 0; i < 4; i++) {
            x.note(i);
        }
        x.labels(1);
        for (int i = 0; i < 8; i++) {
            x.note(i % 4);
        }
        for (int i = 0; i < 40; i++) {
            x.claim(i);
        }
        return x;
    }

    // ---- whatever can be asked

    private static List<Long> answers(ExactTests x) {
        List<Long> all = new ArrayList<>();
        for (int what = 0; what <= 7; what++) {
            all.add((long) x.told(what));
        }
        int rows = x.told(5);
        int columns = x.told(6);
        for (int at = 0; at < rows * columns; at++) {
            all.add((long) x.about(at / columns, at % columns, 0));
        }
        askRanks(x, all);
        askResults(x, all);
        askList(x, all);
        askCases(x, all);
        askByTests(x, all);
        for (int which = 0; which <= 3; which++) {
            all.add((long) x.clear(which));
        }
        return all;
    }

    private static void askRanks(ExactTests x, List<Long> all) {
        for (int which = 0; which <= 2; which++) {
            int size = x.told(which);
            for (int i = 0; i <= size; i++) {
                all.add((long) x.rank(which, i));
            }
        }
        all.add((long) x.shift());
    }

    private static void askResults(ExactTests x, List<Long> all) {
        for (int what = 0; what <= 2; what++) {
            all.add((long) x.result(what));
        }
        for (int tail = 0; tail <= 3; tail++) {
            for (int what = 0; what <= 1; what++) {
                all.add((long) x.bits(tail, what));
                for (int k = 0; k <= 4; k++) {
                    all.add((long) x.word(tail, what, k));
                }
            }
            all.add((long) x.check(tail));
        }
        int seen = x.result(1) < -100000 ? 0 : x.result(1);
        for (int s = seen - 4; s <= seen + 4; s++) {
            all.add(x.ways(s));
        }
    }

    private static void askList(ExactTests x, List<Long> all) {
        all.add((long) x.rejected(1, 20));
        all.add((long) x.rejected(7, 2));
        for (int i = 0; i <= x.told(3); i++) {
            all.add((long) x.isRejected(i, 1, 1));
            all.add((long) x.isRejected(i, 5, 2));
        }
    }

    private static void askCases(ExactTests x, List<Long> all) {
        int last = x.told(7) - 1;
        for (int i = 0; i <= last; i += 1 + last / 4) {
            all.add((long) x.weighs(i));
            for (int at = 0; at < 12; at++) {
                all.add((long) x.caseAt(i, at / 4, at % 4));
            }
        }
    }

    /** Numbers themselves show only in tests. */
    private static void askByTests(ExactTests x, List<Long> all) {
        all.add((long) x.labels(0));
        all.add(x.ways(x.result(1) < -100000 ? 0 : x.result(1)));
        all.add((long) x.figure(0, 5));
        all.add((long) x.signs(0));
        all.add((long) x.figure(0, 5));
        all.add((long) x.tables());
        all.add((long) x.figure(0, 5));
    }

    // ---- what is refused

    private static void withoutResults(RefusedCallsTest bench) {
        due.sentence("Promise 14", "STATE (ahead): no RESULTS");
        bench.refuses("bits(0, 0)", STATE, x -> x.bits(0, 0));
        bench.refusesEach("bits, tail", NOT_TAIL, STATE, (x, v) -> x.bits(v, 0));
        bench.refusesEach("bits, what", NOT_0_OR_1, STATE, (x, v) -> x.bits(3, v));
        bench.refuses("bits(4, 2)", STATE, x -> x.bits(4, 2));
        due.sentence("Promise 15", "STATE");
        bench.refuses("word(0, 0, 0)", STATE, x -> x.word(0, 0, 0));
        bench.refusesEach("word, tail", NOT_TAIL, STATE, (x, v) -> x.word(v, 0, 0));
        bench.refusesEach("word, what", NOT_0_OR_1, STATE, (x, v) -> x.word(3, v, 0));
        bench.refuses("word(0, 0, -1)", STATE, x -> x.word(0, 0, -1));
        bench.refuses("word(4, 2, -1)", STATE, x -> x.word(4, 2, -1));
        due.sentence("Promise 16", "STATE");
        bench.refuses("figure(0, 0)", STATE, x -> x.figure(0, 0));
        bench.refusesEach("figure, tail", NOT_TAIL, STATE, (x, v) -> x.figure(v, 0));
        bench.refuses("figure(0, 61)", STATE, x -> x.figure(0, 61));
        bench.refuses("figure(-1, -1)", STATE, x -> x.figure(-1, -1));
        due.sentence("Promise 17", "STATE (-30, ahead)");
        bench.refuses("against(0, 1, 2)", -30, x -> x.against(0, 1, 2));
        bench.refusesEach("against, tail", NOT_TAIL, -30, (x, v) -> x.against(v, 1, 2));
        bench.refuses("against(0, -1, 1)", -30, x -> x.against(0, -1, 1));
        bench.refuses("against(4, 1, 0)", -30, x -> x.against(4, 1, 0));
        due.sentence("Promise 18", "STATE (LOST less 2, ahead)");
        bench.refuses("result(0)", LOST - 2, x -> x.result(0));
        bench.refusesEach("result", Bench.beyond(0, 2), LOST - 2, (x, v) -> x.result(v));
        due.sentence("Promise 19", "STATE (-3): no RESULTS");
        bench.refuses("ways(0)", STATE, x -> x.ways(0));
        bench.refusesEach("ways", Bench.beyond(0, 0), STATE, (x, v) -> x.ways(v));
        due.sentence("Promise 20", "STATE (ahead): no RESULTS");
        bench.refuses("note(0)", STATE, x -> x.note(0));
        bench.refusesEach("note", NOT_TAIL, STATE, (x, v) -> x.note(v));
        due.sentence("Promise 24", "STATE (-30, ahead)");
        bench.refuses("check(0)", -30, x -> x.check(0));
        bench.refusesEach("check", NOT_TAIL, -30, (x, v) -> x.check(v));
        withoutCases(bench);
    }

    private static void withoutCases(RefusedCallsTest bench) {
        due.sentence("Promise 12", "STATE (ahead): none went");
        bench.refuses("caseAt(0, 0, 0)", STATE, x -> x.caseAt(0, 0, 0));
        bench.refusesEach("caseAt, i", Bench.beyond(0, 0), STATE, (x, v) -> x.caseAt(v, 0, 0));
        bench.refusesEach("caseAt, row and column", Bench.beyond(0, 4), STATE, (x, v) -> x.caseAt(0, v, v));
        due.sentence("Promise 13", "STATE (-30, ahead): as above");
        bench.refuses("weighs(0)", -30, x -> x.weighs(0));
        bench.refusesEach("weighs", Bench.beyond(0, 0), -30, (x, v) -> x.weighs(v));
        RefusedCallsTest other = new RefusedCallsTest(() -> {
            ExactTests x = told();
            x.labels(0);
            x.signs(0);
            return x;
        });
        other.refuses("caseAt after other TESTS alone", STATE, x -> x.caseAt(0, 0, 0));
        other.refuses("weighs after other TESTS alone", -30, x -> x.weighs(0));
    }

    /** Of a bench with 2 rows and 3 columns, 14 in all, where (0, 0) has 4. */
    private static void tableAndCells(RefusedCallsTest bench) {
        due.sentence("Promise 2", "OUTSIDE");
        int[] not1To5 = Bench.beyond(1, 5);
        bench.refusesEach("table, rows", not1To5, OUTSIDE, (x, v) -> x.table(v, 2));
        bench.refusesEach("table, columns", not1To5, OUTSIDE, (x, v) -> x.table(2, v));
        bench.refusesEach("table, both", not1To5, OUTSIDE, (x, v) -> x.table(v, v));
        due.sentence("Promise 3", "UNKNOWN");
        bench.refusesEach("cell, row", Bench.beyond(0, 1), UNKNOWN, (x, v) -> x.cell(v, 0, 1));
        bench.refusesEach("cell, column", Bench.beyond(0, 2), UNKNOWN, (x, v) -> x.cell(0, v, 1));
        bench.refusesEach("cell, row, ahead of OUTSIDE", Bench.beyond(0, 1), UNKNOWN, (x, v) -> x.cell(v, 0, 61));
        bench.refusesEach("cell, column, ahead of OUTSIDE", Bench.beyond(0, 2), UNKNOWN, (x, v) -> x.cell(1, v, -1));
        bench.refuses("cell(2, 0, 60), ahead of FULL", UNKNOWN, x -> x.cell(2, 0, 60));
        due.sentence("Promise 3", "OUTSIDE: not 0 to 60");
        bench.refusesEach("cell", Bench.beyond(0, 60), OUTSIDE, (x, v) -> x.cell(0, 0, v));
        due.sentence("Promise 3", "FULL: more than 60 in all");
        bench.refuses("cell(0, 0, 51)", FULL, x -> x.cell(0, 0, 51));
        bench.refuses("cell(0, 0, 60)", FULL, x -> x.cell(0, 0, 60));
        bench.refuses("cell(0, 1, 47)", FULL, x -> x.cell(0, 1, 47));
        bench.refuses("cell(1, 2, 49)", FULL, x -> x.cell(1, 2, 49));
        due.is("cell(0, 0, 50) is not", bench.scene.make().cell(0, 0, 50), 4);
        due.is("cell(0, 1, 46) is not", bench.scene.make().cell(0, 1, 46), 0);
        due.is("cell(1, 2, 48) is not", bench.scene.make().cell(1, 2, 48), 2);
        due.sentence("Promise 4", "UNKNOWN: row, column that matters");
        bench.refusesEach("about, row of 0", Bench.beyond(0, 1), UNKNOWN, (x, v) -> x.about(v, 0, 0));
        bench.refusesEach("about, column of 0", Bench.beyond(0, 2), UNKNOWN, (x, v) -> x.about(0, v, 0));
        bench.refusesEach("about, row of 1", Bench.beyond(0, 1), UNKNOWN, (x, v) -> x.about(v, 0, 1));
        bench.refusesEach("about, column of 2", Bench.beyond(0, 2), UNKNOWN, (x, v) -> x.about(0, v, 2));
        due.sentence("Promise 4", "OUTSIDE: what (ahead here)");
        bench.refusesEach("about", Bench.beyond(0, 3), OUTSIDE, (x, v) -> x.about(0, 0, v));
        bench.refusesEach("about, no row", Bench.beyond(0, 3), OUTSIDE, (x, v) -> x.about(2, 0, v));
        bench.refusesEach("about, no column", Bench.beyond(0, 3), OUTSIDE, (x, v) -> x.about(0, -1, v));
    }

    /** Of a bench with 3 and 2 numbers and 5 pairs. */
    private static void whatIsTold(RefusedCallsTest bench) {
        int[] notNumber = Bench.beyond(-1000, 1000);
        due.sentence("Promise 5", "UNKNOWN");
        bench.refusesEach("sample", NOT_0_OR_1, UNKNOWN, (x, v) -> x.sample(v, 0));
        bench.refusesEach("sample, ahead of OUTSIDE", NOT_0_OR_1, UNKNOWN, (x, v) -> x.sample(v, 1001));
        due.sentence("Promise 5", "OUTSIDE");
        bench.refusesEach("sample of A", notNumber, OUTSIDE, (x, v) -> x.sample(0, v));
        bench.refusesEach("sample of B", notNumber, OUTSIDE, (x, v) -> x.sample(1, v));
        due.sentence("Promise 6", "OUTSIDE");
        bench.refusesEach("pair, first", notNumber, OUTSIDE, (x, v) -> x.pair(v, 0));
        bench.refusesEach("pair, second", notNumber, OUTSIDE, (x, v) -> x.pair(0, v));
        bench.refusesEach("pair, both", notNumber, OUTSIDE, (x, v) -> x.pair(v, v));
        due.sentence("Promise 7", "UNKNOWN");
        bench.refusesEach("clear", Bench.beyond(0, 3), UNKNOWN, (x, v) -> x.clear(v));
        due.sentence("Promise 11", "UNKNOWN");
        bench.refusesEach("rank of A", Bench.beyond(0, 2), UNKNOWN, (x, v) -> x.rank(0, v));
        bench.refusesEach("rank of B", Bench.beyond(0, 1), UNKNOWN, (x, v) -> x.rank(1, v));
        bench.refusesEach("rank of PAIRS", Bench.beyond(0, 4), UNKNOWN, (x, v) -> x.rank(2, v));
        bench.refusesEach("rank of nothing", Bench.beyond(0, 2), UNKNOWN, (x, v) -> x.rank(v, 0));
        bench.refusesEach("rank of nothing, no place", Bench.beyond(0, 2), UNKNOWN, (x, v) -> x.rank(v, 15));
        due.sentence("Promise 26", "OUTSIDE");
        bench.refusesEach("told", Bench.beyond(0, 7), OUTSIDE, (x, v) -> x.told(v));
    }

    /** Of a bench that has RESULTS. */
    private static void chances(RefusedCallsTest bench) {
        due.sentence("Promise 14", "UNKNOWN; OUTSIDE");
        bench.refusesEach("bits, tail", NOT_TAIL, UNKNOWN, (x, v) -> x.bits(v, 1));
        bench.refusesEach("bits, tail, ahead of OUTSIDE", NOT_TAIL, UNKNOWN, (x, v) -> x.bits(v, 2));
        bench.refusesEach("bits, what", NOT_0_OR_1, OUTSIDE, (x, v) -> x.bits(0, v));
        due.sentence("Promise 15", "UNKNOWN, OUTSIDE: what, k is below 0");
        bench.refusesEach("word, tail", NOT_TAIL, UNKNOWN, (x, v) -> x.word(v, 1, 0));
        bench.refusesEach("word, tail, ahead of what", NOT_TAIL, UNKNOWN, (x, v) -> x.word(v, -1, 0));
        bench.refusesEach("word, tail, ahead of k", NOT_TAIL, UNKNOWN, (x, v) -> x.word(v, 0, -1));
        bench.refusesEach("word, what", NOT_0_OR_1, OUTSIDE, (x, v) -> x.word(0, v, 0));
        bench.refusesEach("word, what, beyond its end", NOT_0_OR_1, OUTSIDE, (x, v) -> x.word(0, v, 99));
        int[] below0 = {-1, -2, -16, -(1 << 28), Bench.LEAST};
        bench.refusesEach("word, k of the upper", below0, OUTSIDE, (x, v) -> x.word(1, 0, v));
        bench.refusesEach("word, k of the lower", below0, OUTSIDE, (x, v) -> x.word(3, 1, v));
        due.sentence("Promise 16", "UNKNOWN; OUTSIDE");
        bench.refusesEach("figure, tail", NOT_TAIL, UNKNOWN, (x, v) -> x.figure(v, 1));
        bench.refusesEach("figure, tail, ahead of OUTSIDE", NOT_TAIL, UNKNOWN, (x, v) -> x.figure(v, 61));
        bench.refusesEach("figure", Bench.beyond(0, 60), OUTSIDE, (x, v) -> x.figure(2, v));
        due.sentence("Promise 17", "UNKNOWN (-10)");
        bench.refusesEach("against, tail", NOT_TAIL, -10, (x, v) -> x.against(v, 1, 2));
        bench.refusesEach("against, tail, ahead of u", NOT_TAIL, -10, (x, v) -> x.against(v, -1, 2));
        bench.refusesEach("against, tail, ahead of v", NOT_TAIL, -10, (x, v) -> x.against(v, 1, 0));
        due.sentence("Promise 17", "OUTSIDE (-20): not 0 <= u <= 1000000, 1 <= v <= 1000000");
        bench.refusesEach("against, u", NOT_U, -20, (x, v) -> x.against(0, v, 1));
        bench.refusesEach("against, v", NOT_V, -20, (x, v) -> x.against(3, 1, v));
        bench.refuses("against, both", -20, x -> x.against(1, 1000001, 0));
        due.sentence("Promise 18", "OUTSIDE (LOST less 1)");
        bench.refusesEach("result", Bench.beyond(0, 2), LOST - 1, (x, v) -> x.result(v));
    }

    /** Of a bench with 6 chances noted. */
    private static void listAndClaims(RefusedCallsTest bench) {
        due.sentence("Promise 20", "UNKNOWN");
        bench.refusesEach("note", NOT_TAIL, UNKNOWN, (x, v) -> x.note(v));
        due.sentence("Promise 21", "OUTSIDE: as in against()");
        bench.refusesEach("rejected, u", NOT_U, OUTSIDE, (x, v) -> x.rejected(v, 1));
        bench.refusesEach("rejected, v", NOT_V, OUTSIDE, (x, v) -> x.rejected(1, v));
        due.sentence("Promise 22", "UNKNOWN; OUTSIDE");
        int[] notThere = Bench.beyond(0, 5);
        bench.refusesEach("isRejected, i", notThere, UNKNOWN, (x, v) -> x.isRejected(v, 1, 1));
        bench.refusesEach("isRejected, i, ahead of u", notThere, UNKNOWN, (x, v) -> x.isRejected(v, -1, 1));
        bench.refusesEach("isRejected, i, ahead of v", notThere, UNKNOWN, (x, v) -> x.isRejected(v, 1, 0));
        bench.refusesEach("isRejected, u", NOT_U, OUTSIDE, (x, v) -> x.isRejected(0, v, 1));
        bench.refusesEach("isRejected, v", NOT_V, OUTSIDE, (x, v) -> x.isRejected(5, 1, v));
        due.sentence("Promise 23", "OUTSIDE");
        bench.refusesEach("claim", Bench.beyond(0, 65535), OUTSIDE, (x, v) -> x.claim(v));
        due.sentence("Promise 24", "UNKNOWN (-10)");
        bench.refusesEach("check", NOT_TAIL, -10, (x, v) -> x.check(v));
    }

    private static void tests(RefusedCallsTest bench) {
        due.sentence("Promise 9", "UNKNOWN (LOST): another number");
        bench.refusesEach("labels", NOT_0_OR_1, LOST, (x, v) -> x.labels(v));
        due.sentence("Promise 10", "UNKNOWN (LOST)");
        bench.refusesEach("signs", Bench.beyond(0, 2), LOST, (x, v) -> x.signs(v));
    }

    /** Of a bench with 23 CASES of 2 rows and 3 columns. */
    private static void cases(RefusedCallsTest bench) {
        due.sentence("Promise 12", "UNKNOWN: CASE, row, column");
        bench.refusesEach("caseAt, CASE", Bench.beyond(0, 22), UNKNOWN, (x, v) -> x.caseAt(v, 0, 0));
        bench.refusesEach("caseAt, row", Bench.beyond(0, 1), UNKNOWN, (x, v) -> x.caseAt(0, v, 0));
        bench.refusesEach("caseAt, column", Bench.beyond(0, 2), UNKNOWN, (x, v) -> x.caseAt(22, 0, v));
        due.sentence("Promise 13", "UNKNOWN (-10)");
        bench.refusesEach("weighs", Bench.beyond(0, 22), -10, (x, v) -> x.weighs(v));
        due.sentence("Promise 12", "of the latest tables() that went");
        ExactTests x = bench.scene.make();
        x.table(5, 5);
        due.is("a row of THE TABLE, but not of the CASES", x.caseAt(0, 2, 0), UNKNOWN);
        due.is("a column of THE TABLE, but not of the CASES", x.caseAt(0, 0, 3), UNKNOWN);
        x.table(1, 1);
        due.is("a cell of the CASES, but not of THE TABLE", x.caseAt(0, 1, 0), 5);
    }

    private static void waysOfTables(RefusedCallsTest bench) {
        due.sentence("Promise 19", "STATE (-3): .. or of the TABLE TEST");
        bench.refuses("ways(4)", STATE, x -> x.ways(4));
        bench.refusesEach("ways", Bench.beyond(0, 0), STATE, (x, v) -> x.ways(v));
    }

    private static void fullOnes(RefusedCallsTest bench) {
        due.sentence("Promise 3", "FULL: more than 60 in all");
        bench.refuses("cell(0, 1, 2)", FULL, x -> x.cell(0, 1, 2));
        bench.refuses("cell(0, 0, 61), OUTSIDE is ahead", OUTSIDE, x -> x.cell(0, 0, 61));
        due.sentence("Promise 5", "FULL");
        bench.refuses("sample(0, 0)", FULL, x -> x.sample(0, 0));
        bench.refuses("sample(1, 1000)", FULL, x -> x.sample(1, 1000));
        bench.refuses("sample(0, 1001), OUTSIDE is ahead", OUTSIDE, x -> x.sample(0, 1001));
        bench.refuses("sample(2, 0), UNKNOWN is ahead", UNKNOWN, x -> x.sample(2, 0));
        due.sentence("Promise 6", "FULL");
        bench.refuses("pair(0, 0)", FULL, x -> x.pair(0, 0));
        bench.refuses("pair(1000, -1000)", FULL, x -> x.pair(1000, -1000));
        bench.refuses("pair(0, -1001), OUTSIDE is ahead", OUTSIDE, x -> x.pair(0, -1001));
        due.sentence("Promise 20", "FULL");
        for (int tail = 0; tail <= 3; tail++) {
            int t = tail;
            bench.refuses("note(" + t + ")", FULL, x -> x.note(t));
        }
        bench.refusesEach("note, UNKNOWN is ahead", NOT_TAIL, UNKNOWN, (x, v) -> x.note(v));
        due.sentence("Promise 22", "UNKNOWN");
        bench.refusesEach("isRejected", Bench.beyond(0, 11), UNKNOWN, (x, v) -> x.isRejected(v, 1, 1));
        due.sentence("Promise 23", "FULL: 40");
        bench.refuses("claim(0)", FULL, x -> x.claim(0));
        bench.refuses("claim(65535)", FULL, x -> x.claim(65535));
        bench.refusesEach("claim, OUTSIDE is ahead", Bench.beyond(0, 65535), OUTSIDE, (x, v) -> x.claim(v));
        due.sentence("Promise 11", "UNKNOWN");
        bench.refusesEach("rank of A", Bench.beyond(0, 14), UNKNOWN, (x, v) -> x.rank(0, v));
        bench.refusesEach("rank of B", Bench.beyond(0, 14), UNKNOWN, (x, v) -> x.rank(1, v));
        bench.refusesEach("rank of PAIRS", Bench.beyond(0, 29), UNKNOWN, (x, v) -> x.rank(2, v));
    }

    /** RESULTS, CASES, a list and claims are there; then what tests need is taken away. */
    private static ExactTests without(int which) {
        ExactTests x = tested(which);
        x.clear(0);
        x.clear(1);
        x.table(2, 3);
        return x;
    }

    private static void nothingToTest() {
        for (int test = 0; test < 6; test++) {
            int last = test;
            RefusedCallsTest empty = new RefusedCallsTest(() -> without(last));
            due.sentence("Promise 8", "NO: THE TABLE has 0 in all");
            empty.refuses("tables()", NO, x -> x.tables());
            due.sentence("Promise 9", "STATE (LOST less 2): A or B is empty");
            noLabels(empty);
            RefusedCallsTest onlyA = new RefusedCallsTest(() -> withOne(last, 0));
            noLabels(onlyA);
            RefusedCallsTest onlyB = new RefusedCallsTest(() -> withOne(last, 1));
            noLabels(onlyB);
            due.sentence("Promise 9", "UNKNOWN (LOST) is ahead of STATE");
            empty.refusesEach("labels", NOT_0_OR_1, LOST, (x, v) -> x.labels(v));
            due.sentence("Promise 10", "STATE (LOST less 2): no difference is other than 0");
            noSigns(empty);
            RefusedCallsTest zeros = new RefusedCallsTest(() -> withZeros(last));
            noSigns(zeros);
            due.sentence("Promise 10", "UNKNOWN (LOST) is ahead of STATE");
            zeros.refusesEach("signs", Bench.beyond(0, 2), LOST, (x, v) -> x.signs(v));
            due.sentence("Promise 25", "STATE (LOST less 2): A or B is empty");
            empty.refuses("shift()", LOST - 2, x -> x.shift());
            onlyA.refuses("shift()", LOST - 2, x -> x.shift());
            onlyB.refuses("shift()", LOST - 2, x -> x.shift());
        }
    }

    private static ExactTests withOne(int test, int which) {
        ExactTests x = without(test);
        x.sample(which, 7);
        return x;
    }

    private static ExactTests withZeros(int test) {
        ExactTests x = without(test);
        for (int i = 0; i < 30; i++) {
            x.pair(i, i);
        }
        return x;
    }

    private static void noLabels(RefusedCallsTest bench) {
        bench.refuses("labels(0)", LOST - 2, x -> x.labels(0));
        bench.refuses("labels(1)", LOST - 2, x -> x.labels(1));
    }

    private static void noSigns(RefusedCallsTest bench) {
        for (int which = 0; which <= 2; which++) {
            int w = which;
            bench.refuses("signs(" + w + ")", LOST - 2, x -> x.signs(w));
        }
    }

    private static void tooManyCases() {
        due.sentence("Promise 8", "SPENT: there are more than 20000");
        for (int test = 0; test < 6; test++) {
            int last = test;
            RefusedCallsTest spent = new RefusedCallsTest(() -> {
                ExactTests x = tested(last);
                Bench.tooManyCases(x);
                return x;
            });
            spent.refuses("tables()", SPENT, x -> x.tables());
            RefusedCallsTest oneTooMany = new RefusedCallsTest(() -> {
                ExactTests x = tested(last);
                Bench.margins(x, Bench.of(13, 7, 4, 3), 3, 3, 10, 11);
                return x;
            });
            oneTooMany.refuses("tables(), 20001", SPENT, x -> x.tables());
        }
    }

    // ---- what only reads

    private void reads(String call, Call asked) {
        ExactTests x = scene.make();
        long first = asked.on(x);
        due.is(call + " again", asked.on(x), first);
        due.isTrue(call + " changes nothing", answers(x).equals(before));
    }

    private static void reading(RefusedCallsTest bench) {
        due.sentence("Not promised", "Nothing is promised beyond the answers and state changes described above");
        bench.reads("about", x -> x.about(0, 0, 3));
        bench.reads("rank of A", x -> x.rank(0, 2));
        bench.reads("rank of PAIRS", x -> x.rank(2, 2));
        bench.reads("caseAt", x -> x.caseAt(3, 1, 1));
        bench.reads("weighs", x -> x.weighs(3));
        for (int tail = 0; tail <= 3; tail++) {
            int t = tail;
            bench.reads("bits", x -> x.bits(t, 1));
            bench.reads("word", x -> x.word(t, 1, 0));
            bench.reads("figure", x -> x.figure(t, 60));
            bench.reads("against", x -> x.against(t, 1, 20));
            bench.reads("check", x -> x.check(t));
        }
        bench.reads("result", x -> x.result(1));
        bench.reads("ways", x -> x.ways(4));
        bench.reads("rejected", x -> x.rejected(3, 2));
        bench.reads("isRejected", x -> x.isRejected(1, 3, 2));
        bench.reads("shift", x -> x.shift());
        bench.reads("told", x -> x.told(7));
    }
}
