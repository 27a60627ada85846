import java.util.List;
import java.util.Random;

/** Runs of random calls, each answer held against that of the plain model; seeds are fixed. */
public final class ModelRunsTest {
    private static final int CALLS = 512;

    private final Due due;
    private final Random random;
    private final String name;
    private final ExactTests x = new ExactTests();
    private final PlainModel m = new PlainModel();
    private final int spread;
    private final int theme;
    private int calls;

    private ModelRunsTest(Due due, int seed) {
        this.due = due;
        this.random = new Random(seed);
        this.name = "seed " + seed + " ";
        int[] spreads = {3, 12, 100, 1000};
        this.spread = spreads[random.nextInt(4)];
        this.theme = random.nextInt(4);
    }

    public static void main(String[] args) {
        Due due = new Due();
        int runs = args.length > 0 ? Integer.parseInt(args[0]) : 300;
        int from = args.length > 1 ? Integer.parseInt(args[1]) : 1;
        for (int seed = from; seed < from + runs && !due.anyWrong(); seed++) {
            new ModelRunsTest(due, seed).run();
        }
        due.close();
    }

    private void run() {
        while (calls < CALLS) {
            if (theme == 0 || random.nextInt(4) == 0) {
                tell();
            }
            if (random.nextInt(60) == 0) {
                newTable();
            }
            if (random.nextInt(90) == 0) {
                claimRightWords();
            }
            if (random.nextInt(12) == 0) {
                test();
            }
            any();
        }
    }

    private void is(String call, long got, long want) {
        calls++;
        due.is(name + "call " + calls + " " + call, got, want);
    }

    /** Mostly from least to most, at times just outside or far outside of it. */
    private int near(int least, int most) {
        int r = random.nextInt(40);
        if (r == 0) {
            return least - 1;
        }
        if (r == 1) {
            return most + 1;
        }
        if (r == 2) {
            return random.nextBoolean() ? Integer.MIN_VALUE : Integer.MAX_VALUE;
        }
        return least + random.nextInt(most - least + 1);
    }

    private int number() {
        int r = random.nextInt(60);
        if (r == 0) {
            return random.nextBoolean() ? 1001 : -1001;
        }
        if (r == 1) {
            return random.nextBoolean() ? 1000 : -1000;
        }
        return random.nextInt(2 * spread + 1) - spread;
    }

    private void tell() {
        int r = random.nextInt(4);
        if (r == 0) {
            int w = near(0, 1), v = number();
            is("sample(" + w + ", " + v + ")", x.sample(w, v), m.sample(w, v));
        } else if (r == 1) {
            int a = number(), b = random.nextInt(6) == 0 ? a : number();
            is("pair(" + a + ", " + b + ")", x.pair(a, b), m.pair(a, b));
        } else if (r == 2) {
            int w = near(0, 65535);
            is("claim(" + w + ")", x.claim(w), m.claim(w));
        } else {
            int t = near(0, 3);
            is("note(" + t + ")", x.note(t), m.note(t));
        }
    }

    private void newTable() {
        int r = near(1, 5), c = near(1, 5);
        is("table(" + r + ", " + c + ")", x.table(r, c), m.table(r, c));
        int most = 1 + random.nextInt(10);
        for (int i = 0; i < m.told(5); i++) {
            for (int j = 0; j < m.told(6); j++) {
                int n = Math.max(0, random.nextInt(most + 2) - 1);
                is("cell(" + i + ", " + j + ", " + n + ")", x.cell(i, j, n), m.cell(i, j, n));
            }
        }
        is("tables()", x.tables(), m.tables());
    }

    private void claimRightWords() {
        if (m.result(0) < 0) {
            return;
        }
        int t = random.nextInt(4);
        is("clear(3)", x.clear(3), m.clear(3));
        List<Integer> words = m.wordsDue(t);
        int slip = random.nextInt(5);
        for (int i = 0; i < words.size() - (slip == 1 ? 1 : 0); i++) {
            int w = words.get(i) ^ (slip == 2 && random.nextInt(3) == 0 ? 1 : 0);
            is("claim(" + w + ")", x.claim(w), m.claim(w));
        }
        if (slip == 3) {
            is("claim(0)", x.claim(0), m.claim(0));
        }
        is("check(" + t + ")", x.check(t), m.check(t));
    }

    private void test() {
        int r = random.nextInt(3);
        if (r == 0) {
            int w = near(0, 1);
            is("labels(" + w + ")", x.labels(w), m.labels(w));
        } else if (r == 1) {
            int w = near(0, 2);
            is("signs(" + w + ")", x.signs(w), m.signs(w));
        } else {
            is("tables()", x.tables(), m.tables());
        }
    }

    private void any() {
        int t = near(0, 3);
        switch (random.nextInt(19)) {
            case 0: { int r = near(0, 4), c = near(0, 4), n = near(0, random.nextInt(3) == 0 ? 60 : 6);
                is("cell(" + r + ", " + c + ", " + n + ")", x.cell(r, c, n), m.cell(r, c, n)); break; }
            case 1: { int r = near(0, 4), c = near(0, 4), w = near(0, 3);
                is("about(" + r + ", " + c + ", " + w + ")", x.about(r, c, w), m.about(r, c, w)); break; }
            case 2: { if (random.nextInt(6) == 0) { int w = near(0, 3);
                is("clear(" + w + ")", x.clear(w), m.clear(w)); } break; }
            case 3: { int w = near(0, 2), i = near(0, 29);
                is("rank(" + w + ", " + i + ")", x.rank(w, i), m.rank(w, i)); break; }
            case 4: { int i = near(0, Math.max(1, m.told(7)) - 1), r = near(0, 4), c = near(0, 4);
                is("caseAt(" + i + ", " + r + ", " + c + ")", x.caseAt(i, r, c), m.caseAt(i, r, c)); break; }
            case 5: { int i = near(0, Math.max(1, m.told(7)) - 1);
                is("weighs(" + i + ")", x.weighs(i), m.weighs(i)); break; }
            case 6: { int w = near(0, 1);
                is("bits(" + t + ", " + w + ")", x.bits(t, w), m.bits(t, w)); break; }
            case 7: { int w = near(0, 1), k = near(0, 9);
                is("word(" + t + ", " + w + ", " + k + ")", x.word(t, w, k), m.word(t, w, k)); break; }
            case 8: { int i = near(0, 60);
                is("figure(" + t + ", " + i + ")", x.figure(t, i), m.figure(t, i)); break; }
            case 9: { int u = near(0, 1000000), v = near(1, 1000000);
                is("against(" + t + ", " + u + ", " + v + ")", x.against(t, u, v), m.against(t, u, v)); break; }
            case 10: { int w = near(0, 2);
                is("result(" + w + ")", x.result(w), m.result(w)); break; }
            case 11: { int s = statistic();
                is("ways(" + s + ")", x.ways(s), m.ways(s)); break; }
            case 12: { int u = near(0, 1000), v = near(1, 1000);
                is("rejected(" + u + ", " + v + ")", x.rejected(u, v), m.rejected(u, v)); break; }
            case 13: { int i = near(0, 11), u = near(0, 1000), v = near(1, 1000);
                is("isRejected(" + i + ", " + u + ", " + v + ")", x.isRejected(i, u, v), m.isRejected(i, u, v)); break; }
            case 14: is("check(" + t + ")", x.check(t), m.check(t)); break;
            case 15: is("shift()", x.shift(), m.shift()); break;
            case 16: { int w = near(0, 7);
                is("told(" + w + ")", x.told(w), m.told(w)); break; }
            case 17: sameChance(t); break;
            default: tell(); break;
        }
    }

    private int statistic() {
        int seen = m.result(1) < -1000000 ? 0 : m.result(1);
        return random.nextInt(8) == 0 ? near(-60000, 60000) : seen + random.nextInt(21) - 10;
    }

    /** A level that is just the chance, where its numbers are small enough. */
    private void sameChance(int t) {
        if (m.bits(t, 0) > 0 && m.bits(t, 0) <= 16 && m.bits(t, 1) <= 16) {
            int u = m.word(t, 0, 0), v = m.word(t, 1, 0);
            is("against(" + t + ", " + u + ", " + v + ")", x.against(t, u, v), m.against(t, u, v));
            is("rejected(" + u + ", " + v + ")", x.rejected(u, v), m.rejected(u, v));
        }
    }
}
