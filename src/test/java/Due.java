import java.math.BigInteger;
import java.util.Set;
import java.util.TreeSet;

/** Counts the answers that are not as due; a test closes with close(). */
final class Due {
    private int asked;
    private int wrong;
    private final Set<String> sentences = new TreeSet<>();
    private String sentence = "";

    /** What is asked from here on belongs to this sentence of the document. */
    void sentence(String where, String words) {
        sentence = where + " \"" + words + "\": ";
        sentences.add(sentence);
    }

    void is(String call, long got, long want) {
        asked++;
        if (got != want) {
            wrong++;
            if (wrong <= 40) {
                System.out.println(sentence + call + " answered " + got + ", due is " + want);
            }
        }
    }

    /** A chance, by both of its numbers. */
    void chance(String name, ExactTests x, int tail, long upper, long lower) {
        BigInteger up = Bench.number(x, tail, 0);
        BigInteger down = Bench.number(x, tail, 1);
        boolean same = up.equals(BigInteger.valueOf(upper)) && down.equals(BigInteger.valueOf(lower));
        isTrue(name + ", tail " + tail + " is " + up + " / " + down + ", due is " + upper + " / " + lower + ": so", same);
    }

    /** All four chances, upper and lower number in turn. */
    void chances(String name, ExactTests x, long... numbers) {
        for (int tail = 0; tail < 4; tail++) {
            chance(name, x, tail, numbers[2 * tail], numbers[2 * tail + 1]);
        }
    }

    void isTrue(String what, boolean holds) {
        is(what, holds ? 1 : 0, 1);
    }

    boolean anyWrong() {
        return wrong != 0;
    }

    void close() {
        String read = sentences.isEmpty() ? "" : sentences.size() + " sentences, ";
        System.out.println(read + asked + " answers, " + wrong + " not as due");
        System.exit(wrong == 0 && asked > 0 ? 0 : 1);
    }
}
