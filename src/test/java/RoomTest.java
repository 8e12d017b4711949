import java.lang.management.ManagementFactory;

/**
 * All calls of a run share one room, so the dear ones must make next to nothing: the dearest world
 * there is, asked for the most of an object's calls, must not take more than it holds.
 */
public final class RoomTest {
    private static final long MOST_BYTES = 1_000_000;
    private static long sum;

    private static AbroadRouter dense() {
        AbroadRouter x = new AbroadRouter();
        for (int i = 0; i < 6; i++) x.place(i * 90 - 200, i % 2 == 0 ? 96 : 0, 300, 1_200);
        for (int i = 0; i < 6; i++) x.bank(i);
        for (int i = 0; i < 48; i++) {
            x.account(i % 5, i % 5 + 1, 1_439, i / 5 % 6, i * 97 % 1_440);
            x.fund(i, 9_999_999);
            x.terms(i, 900 - i * 17, 0, 0, 99_999);
        }
        return x;
    }

    /** Each CHAIN there is cheaper than all ahead of it: each one could be kept for a while. */
    private static AbroadRouter falling() {
        AbroadRouter x = new AbroadRouter();
        x.place(0, 0, 0, 1_439);
        for (int i = 0; i < 6; i++) x.bank(0);
        int[] steps = {9_999, 999, 99, 9, 1};
        for (int i = 0; i < 48; i++) {
            int from = i * 5 / 48;
            x.account(from, from + 1, 1_439, 1, 0);
            x.fund(i, 9_999_999);
            int fee = (9 - i % 10) * steps[from];
            x.terms(i, 0, 0, fee, fee);
        }
        return x;
    }

    private static void askDearly(AbroadRouter x) {
        for (int i = 0; i < 39; i++) {
            sum += x.ask(0, 5, 1_000 + i, i * 200);
            sum += x.latest(100_000) + x.most(100_000) + x.vital() + x.without(i) + x.delay(i);
            sum += x.route(0, 0) + x.step(0, 0, 4) + x.needs(i, 3_000);
        }
    }

    public static void main(String[] args) {
        com.sun.management.ThreadMXBean bean = (com.sun.management.ThreadMXBean) ManagementFactory.getThreadMXBean();
        long id = Thread.currentThread().getId();
        askDearly(dense());
        askDearly(falling());
        long before = bean.getThreadAllocatedBytes(id);
        askDearly(dense());
        long between = bean.getThreadAllocatedBytes(id);
        askDearly(falling());
        long after = bean.getThreadAllocatedBytes(id);
        long most = Math.max(between - before, after - between);
        System.out.println(most + " bytes at most for a full world and 351 dear calls (" + sum + ")");
        if (most > MOST_BYTES) System.exit(1);
    }
}
