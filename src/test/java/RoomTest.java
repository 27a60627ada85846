import java.lang.management.ManagementFactory;

/**
 * All calls of a run live in one room that is never swept: 512 calls of the dearest kinds on one
 * object stay far below it, and so does an object that is only made.
 */
public final class RoomTest {
    private static final Due due = new Due();
    private static final com.sun.management.ThreadMXBean BEAN =
        (com.sun.management.ThreadMXBean) ManagementFactory.getThreadMXBean();

    public static void main(String[] args) {
        new ExactTests();
        long before = allocated();
        ExactTests x = new ExactTests();
        long made = allocated() - before;
        before = allocated();
        dearest(x);
        long used = allocated() - before;
        System.out.println("an object: " + made + " bytes, 512 of its dearest calls: " + used + " bytes");
        // An element has four bytes or more: below a tenth of 7.3 million of them.
        due.isTrue("an object is small", made > 0 && made < 60_000);
        due.isTrue("its dearest calls make little", used > 0 && used < 2_900_000);
        due.close();
    }

    private static long allocated() {
        return BEAN.getThreadAllocatedBytes(Thread.currentThread().getId());
    }

    private static void dearest(ExactTests x) {
        for (int i = 0; i < 15; i++) {
            x.sample(0, (i * i * 37 + i * 331) % 2001 - 1000);
            x.sample(1, (i * i * 91 + i * 177 + 13) % 2001 - 1000);
        }
        for (int i = 0; i < 30; i++) {
            x.pair((i * i * 37 + i * 331) % 2001 - 1000, (i * i * 91 + i * 177 + 13) % 2001 - 1000);
        }
        for (int most = 1; most <= 6; most++) {
            x.table(3, 3);
            for (int i = 0; i < 9; i++) {
                x.cell(i / 3, i % 3, most);
            }
            x.tables();
        }
        // 19006 cases of 25 numbers each
        int[] diagonal = {4, 4, 3, 2, 1};
        x.table(5, 5);
        for (int i = 0; i < 5; i++) {
            x.cell(i, i, diagonal[i]);
        }
        for (int call = 0; call < 228; call++) {
            int kind = call % 12;
            if (kind < 2) {
                x.labels(kind);
            } else if (kind < 5) {
                x.signs(kind - 2);
            } else if (kind < 7) {
                x.tables();
            } else if (kind < 9) {
                x.note(call % 4);
                x.rejected(1, 20);
            } else {
                x.figure(call % 4, 60);
                x.ways(call);
                x.shift();
            }
        }
    }
}
