import java.math.BigInteger;

/** What several tests share: telling a bench things in one go, and reading whole numbers from it. */
final class Bench {
    static final int LEAST = Integer.MIN_VALUE, GREATEST = Integer.MAX_VALUE;

    private Bench() {
    }

    static void fill(ExactTests x, int rows, int columns, int... cells) {
        x.table(rows, columns);
        for (int i = 0; i < cells.length; i++) {
            x.cell(i / columns, i % columns, cells[i]);
        }
    }

    static void samples(ExactTests x, int[] a, int[] b) {
        for (int v : a) {
            x.sample(0, v);
        }
        for (int v : b) {
            x.sample(1, v);
        }
    }

    static void differences(ExactTests x, int... differences) {
        for (int d : differences) {
            int first = Math.max(-1000, Math.min(1000, d));
            x.pair(first, first - d);
        }
    }

    /** Twelve in each of the five cells from corner to corner: far more than 20000 CASES. */
    static void tooManyCases(ExactTests x) {
        x.table(5, 5);
        for (int i = 0; i < 5; i++) {
            x.cell(i, i, 12);
        }
    }

    /** A table with these MARGINS: as much as can be, cell by cell; so the last one in order. */
    static void margins(ExactTests x, int[] rows, int... columns) {
        x.table(rows.length, columns.length);
        int[] free = columns.clone();
        for (int r = 0; r < rows.length; r++) {
            int left = rows[r];
            for (int c = 0; c < columns.length; c++) {
                int n = Math.min(left, free[c]);
                x.cell(r, c, n);
                left -= n;
                free[c] -= n;
            }
        }
    }

    static int[] of(int... numbers) {
        return numbers;
    }

    /** The numbers just outside of least to most, those farthest away, and some that wrap into it. */
    static int[] beyond(int least, int most) {
        long[] tried = {least - 1L, most + 1L, LEAST, GREATEST, least - 256L, most + 256L, least - 65536L,
            most + 65536L, least + (1L << 31), most - (1L << 31), least + (1L << 30), most - (1L << 30)};
        int[] fitting = new int[tried.length];
        int n = 0;
        for (long v : tried) {
            if ((v < least || v > most) && v >= LEAST && v <= GREATEST) {
                fitting[n++] = (int) v;
            }
        }
        return java.util.Arrays.copyOf(fitting, n);
    }

    /** The upper (0) or lower number (1) of a chance, with a word more than it is told to have. */
    static BigInteger number(ExactTests x, int tail, int what) {
        BigInteger number = BigInteger.ZERO;
        for (int k = (x.bits(tail, what) + 15) / 16; k >= 0; k--) {
            number = number.shiftLeft(16).add(BigInteger.valueOf(x.word(tail, what, k)));
        }
        return number;
    }

    static void claimWords(ExactTests x, BigInteger number) {
        for (int k = 0; 16 * k < number.bitLength(); k++) {
            x.claim(number.shiftRight(16 * k).intValue() & 65535);
        }
    }

    /** Claims just what check(tail) asks for. */
    static void claimChance(ExactTests x, int tail) {
        claimWords(x, number(x, tail, 1));
        claimWords(x, number(x, tail, 0));
    }
}
