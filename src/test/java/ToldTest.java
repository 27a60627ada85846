/** Promises 1 to 7 and 26: what is told to a bench, and how much of it there is. */
public final class ToldTest {
    private static final int LEAST = Integer.MIN_VALUE, GREATEST = Integer.MAX_VALUE;
    private static final Due due = new Due();

    public static void main(String[] args) {
        aNewObject();
        table();
        cell();
        about();
        sample();
        pair();
        clear();
        told();
        objectsShareNothing();
        due.close();
    }

    private static void aNewObject() {
        ExactTests x = new ExactTests();
        int[] counts = {0, 0, 0, 0, 0, 1, 1, 0};
        for (int what = 0; what < counts.length; what++) {
            due.is("1: told(" + what + ")", x.told(what), counts[what]);
        }
        due.is("1: about(0, 0, 0)", x.about(0, 0, 0), 0);
        due.is("1: about(0, 0, 3)", x.about(0, 0, 3), 0);
        due.is("1: about(1, 0, 0)", x.about(1, 0, 0), -1);
        due.is("1: about(0, 1, 0)", x.about(0, 1, 0), -1);
        due.is("1: result(0)", x.result(0), -1000000003);
        due.is("1: rejected(1, 1)", x.rejected(1, 1), 0);
        for (int which = 0; which < 4; which++) {
            due.is("1: clear(" + which + ")", x.clear(which), 0);
        }
    }

    private static void table() {
        ExactTests x = new ExactTests();
        for (int rows = -1; rows <= 7; rows++) {
            for (int columns = -1; columns <= 7; columns++) {
                boolean fits = rows >= 1 && rows <= 5 && columns >= 1 && columns <= 5;
                int rowsHad = x.told(5);
                int columnsHad = x.told(6);
                String call = "2: table(" + rows + ", " + columns + ")";
                due.is(call, x.table(rows, columns), fits ? 1 : -2);
                due.is(call + " rows", x.told(5), fits ? rows : rowsHad);
                due.is(call + " columns", x.told(6), fits ? columns : columnsHad);
            }
        }
        due.is("2: table(2, 3)", x.table(2, 3), 1);
        x.cell(1, 2, 7);
        due.is("2: table(6, 3)", x.table(6, 3), -2);
        due.is("2: table(2, 0)", x.table(2, 0), -2);
        due.is("2: table(least, 1)", x.table(LEAST, 1), -2);
        due.is("2: table(1, greatest)", x.table(1, GREATEST), -2);
        due.is("2: refused, all is as it was", x.about(1, 2, 0), 7);
        due.is("2: table(2, 3) anew", x.table(2, 3), 1);
        due.is("2: all are 0", x.about(1, 2, 0), 0);
        due.is("2: none in all", x.about(0, 0, 3), 0);
        x.cell(1, 2, 9);
        x.table(1, 1);
        x.table(2, 3);
        due.is("2: nothing comes back", x.about(1, 2, 0), 0);
    }

    private static void cell() {
        ExactTests x = new ExactTests();
        x.table(2, 2);
        due.is("3: cell(0, 0, 60)", x.cell(0, 0, 60), 0);
        due.is("3: cell(0, 0, 60) again", x.cell(0, 0, 60), 60);
        due.is("3: cell(1, 1, 1)", x.cell(1, 1, 1), -4);
        due.is("3: cell(1, 1, 0)", x.cell(1, 1, 0), 0);
        due.is("3: cell(0, 0, 20)", x.cell(0, 0, 20), 60);
        due.is("3: cell(1, 1, 40)", x.cell(1, 1, 40), 0);
        due.is("3: cell(1, 1, 41)", x.cell(1, 1, 41), -4);
        due.is("3: cell(0, 0, 61)", x.cell(0, 0, 61), -2);
        due.is("3: cell(0, 0, -1)", x.cell(0, 0, -1), -2);
        due.is("3: cell(0, 0, greatest)", x.cell(0, 0, GREATEST), -2);
        due.is("3: cell(0, 0, least)", x.cell(0, 0, LEAST), -2);
        due.is("3: cell(2, 0, 61)", x.cell(2, 0, 61), -1);
        due.is("3: cell(0, 2, 1)", x.cell(0, 2, 1), -1);
        due.is("3: cell(-1, 0, 1)", x.cell(-1, 0, 1), -1);
        due.is("3: cell(0, -1, 1)", x.cell(0, -1, 1), -1);
        due.is("3: cell(greatest, greatest, 1)", x.cell(GREATEST, GREATEST, 1), -1);
        due.is("3: refused, (0, 0) is as it was", x.about(0, 0, 0), 20);
        due.is("3: refused, (1, 1) is as it was", x.about(1, 1, 0), 40);
        due.is("3: 60 in all", x.about(0, 0, 3), 60);
    }

    private static void about() {
        ExactTests x = new ExactTests();
        x.table(2, 3);
        for (int i = 0; i < 6; i++) {
            x.cell(i / 3, i % 3, i + 1);
        }
        due.is("4: about(0, 2, 0)", x.about(0, 2, 0), 3);
        due.is("4: about(1, 0, 0)", x.about(1, 0, 0), 4);
        due.is("4: about(0, 99, 1)", x.about(0, 99, 1), 6);
        due.is("4: about(1, least, 1)", x.about(1, LEAST, 1), 15);
        due.is("4: about(99, 0, 2)", x.about(99, 0, 2), 5);
        due.is("4: about(-1, 2, 2)", x.about(-1, 2, 2), 9);
        due.is("4: about(-9, 99, 3)", x.about(-9, 99, 3), 21);
        due.is("4: about(2, 0, 0)", x.about(2, 0, 0), -1);
        due.is("4: about(0, 3, 0)", x.about(0, 3, 0), -1);
        due.is("4: about(2, 0, 1)", x.about(2, 0, 1), -1);
        due.is("4: about(-1, 0, 1)", x.about(-1, 0, 1), -1);
        due.is("4: about(0, 3, 2)", x.about(0, 3, 2), -1);
        due.is("4: about(0, -1, 2)", x.about(0, -1, 2), -1);
        due.is("4: about(9, 9, 4): OUTSIDE is ahead", x.about(9, 9, 4), -2);
        due.is("4: about(9, 9, -1): OUTSIDE is ahead", x.about(9, 9, -1), -2);
        due.is("4: about(0, 0, greatest)", x.about(0, 0, GREATEST), -2);
    }

    private static void sample() {
        ExactTests x = new ExactTests();
        for (int i = 1; i <= 15; i++) {
            due.is("5: sample(0, ..)", x.sample(0, i % 2 == 0 ? 1000 : -1000), i);
        }
        due.is("5: A is full", x.sample(0, 1), -4);
        due.is("5: OUTSIDE is ahead of FULL", x.sample(0, 1001), -2);
        due.is("5: sample(0, -1001)", x.sample(0, -1001), -2);
        due.is("5: sample(2, 5000)", x.sample(2, 5000), -1);
        due.is("5: sample(-1, 0)", x.sample(-1, 0), -1);
        due.is("5: A as it was", x.told(0), 15);
        due.is("5: B has room of its own", x.sample(1, 0), 1);
        due.is("5: sample(1, least)", x.sample(1, LEAST), -2);
        due.is("5: sample(1, greatest)", x.sample(1, GREATEST), -2);
        for (int i = 2; i <= 15; i++) {
            due.is("5: sample(1, ..)", x.sample(1, 0), i);
        }
        due.is("5: B is full", x.sample(1, 0), -4);
        due.is("5: B as it was", x.told(1), 15);
    }

    private static void pair() {
        ExactTests x = new ExactTests();
        due.is("6: pair(1001, 0)", x.pair(1001, 0), -2);
        due.is("6: pair(0, 1001)", x.pair(0, 1001), -2);
        due.is("6: pair(-1001, 0)", x.pair(-1001, 0), -2);
        due.is("6: pair(0, -1001)", x.pair(0, -1001), -2);
        due.is("6: pair(least, greatest)", x.pair(LEAST, GREATEST), -2);
        for (int i = 1; i <= 30; i++) {
            due.is("6: pair(1000, -1000)", x.pair(1000, -1000), i);
        }
        due.is("6: full", x.pair(0, 0), -4);
        due.is("6: OUTSIDE is ahead of FULL", x.pair(0, 2000), -2);
        due.is("6: as many as were", x.told(2), 30);
    }

    private static void clear() {
        ExactTests x = new ExactTests();
        x.sample(0, 4);
        x.sample(0, 6);
        x.sample(1, 5);
        x.pair(1, 2);
        x.pair(3, 3);
        x.labels(0);
        x.note(0);
        x.note(1);
        x.note(2);
        x.note(3);
        for (int i = 0; i < 5; i++) {
            x.claim(i);
        }
        due.is("7: clear(4)", x.clear(4), -1);
        due.is("7: clear(-1)", x.clear(-1), -1);
        due.is("7: clear(least)", x.clear(LEAST), -1);
        due.is("7: clear(0)", x.clear(0), 3);
        due.is("7: A is empty", x.told(0), 0);
        due.is("7: B is empty", x.told(1), 0);
        due.is("7: PAIRS are as they were", x.told(2), 2);
        due.is("7: clear(1)", x.clear(1), 2);
        due.is("7: THE LIST is as it was", x.told(3), 4);
        due.is("7: clear(2)", x.clear(2), 4);
        due.is("7: THE LIST is empty", x.rejected(1, 1), 0);
        due.is("7: CLAIMED is as it was", x.told(4), 5);
        due.is("7: clear(3)", x.clear(3), 5);
        due.is("7: clear(3) again", x.clear(3), 0);
        due.is("7: RESULTS stay", x.result(1), 10);
        due.is("7: sample(0, 9) anew", x.sample(0, 9), 1);
        due.is("7: rank(0, 0): nothing comes back", x.rank(0, 0), 2);
        due.is("7: note(0) anew", x.note(0), 1);
    }

    private static void told() {
        ExactTests x = new ExactTests();
        x.table(2, 2);
        x.cell(0, 0, 1);
        x.cell(1, 1, 1);
        x.tables();
        x.table(4, 3);
        x.sample(0, 1);
        for (int i = 0; i < 2; i++) {
            x.sample(1, 1);
        }
        for (int i = 0; i < 3; i++) {
            x.pair(1, 1);
        }
        for (int i = 0; i < 4; i++) {
            x.note(i);
        }
        for (int i = 0; i < 5; i++) {
            x.claim(i);
        }
        int[] counts = {1, 2, 3, 4, 5, 4, 3, 2};
        for (int what = 0; what < counts.length; what++) {
            due.is("26: told(" + what + ")", x.told(what), counts[what]);
        }
        due.is("26: told(8)", x.told(8), -2);
        due.is("26: told(-1)", x.told(-1), -2);
        due.is("26: told(greatest)", x.told(GREATEST), -2);
        due.is("26: told(least)", x.told(LEAST), -2);
    }

    private static void objectsShareNothing() {
        ExactTests x = new ExactTests();
        ExactTests y = new ExactTests();
        x.sample(0, 1);
        x.sample(1, 2);
        x.labels(0);
        x.note(0);
        due.is("1: another object has no RESULTS", y.result(0), -1000000003);
        due.is("1: another object has an empty LIST", y.told(3), 0);
        due.is("1: another object has empty SAMPLES", y.told(0), 0);
    }
}
