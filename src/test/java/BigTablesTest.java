import java.util.Random;

/** Promises 8, 12, 13 to 17 on tables with many cases or long numbers, held against the plain model. */
public final class BigTablesTest {
    private static final Due due = new Due();

    public static void main(String[] args) {
        int[][] shapes = {{5, 2}, {2, 5}, {3, 3}, {2, 4}, {4, 2}, {5, 5}, {3, 4}, {4, 3}, {5, 3}, {4, 4}, {2, 2}};
        Random random = new Random(11);
        for (int round = 0; round < 60; round++) {
            int[] shape = shapes[round % shapes.length];
            hold(shape[0], shape[1], random);
        }
        due.close();
    }

    /** Numbers of one column or row lie mostly in one place, so that there are not too many cases. */
    private static void hold(int rows, int columns, Random random) {
        ExactTests x = new ExactTests();
        PlainModel m = new PlainModel();
        int want = -7;
        for (int most = 60; want == -7 && most > 3; most -= 3) {
            x.table(rows, columns);
            m.table(rows, columns);
            for (int i = 0; i < most; i++) {
                int row = Math.min(random.nextInt(rows), random.nextInt(rows));
                int column = Math.min(random.nextInt(columns), random.nextInt(columns));
                int n = m.about(row, column, 0) + 1;
                x.cell(row, column, n);
                m.cell(row, column, n);
            }
            want = m.tables();
            due.is(rows + " x " + columns + " tables()", x.tables(), want);
        }
        String name = rows + " x " + columns + ", " + m.told(7) + " cases, ";
        for (int tail = 0; tail < 4; tail++) {
            holdChance(name, x, m, tail);
        }
        int step = 1 + m.told(7) / 200;
        for (int i = 0; i < m.told(7); i += step) {
            due.is(name + "weighs(" + i + ")", x.weighs(i), m.weighs(i));
            for (int at = 0; at < rows * columns; at++) {
                int row = at / columns, column = at % columns;
                due.is(name + "caseAt(" + i + ", ..)", x.caseAt(i, row, column), m.caseAt(i, row, column));
            }
        }
    }

    private static void holdChance(String name, ExactTests x, PlainModel m, int tail) {
        for (int what = 0; what < 2; what++) {
            due.is(name + "bits(" + tail + ", " + what + ")", x.bits(tail, what), m.bits(tail, what));
            for (int k = 0; k < 20; k++) {
                due.is(name + "word(" + tail + ", " + what + ", " + k + ")", x.word(tail, what, k), m.word(tail, what, k));
            }
        }
        for (int i = 0; i <= 60; i++) {
            due.is(name + "figure(" + tail + ", " + i + ")", x.figure(tail, i), m.figure(tail, i));
        }
        due.is(name + "against 1 / 20", x.against(tail, 1, 20), m.against(tail, 1, 20));
        x.note(tail);
        m.note(tail);
        due.is(name + "rejected at 1 / 10", x.rejected(1, 10), m.rejected(1, 10));
    }
}
