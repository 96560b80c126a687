import java.lang.management.ManagementFactory;

/** The room of a run of calls: an object has its rows from the start, and no call makes more. */
public final class RoomTest {
    private static final int CALLS = 512;
    private static final Check check = new Check();
    private static final com.sun.management.ThreadMXBean BEAN =
        (com.sun.management.ThreadMXBean) ManagementFactory.getThreadMXBean();

    public static void main(String[] args) {
        DeedHands x = filled();
        dearest(x);
        long before = bytes();
        DeedHands y = new DeedHands();
        long made = bytes() - before;
        check.due("a new object of " + made + " bytes is small", made < 100_000 ? 1 : 0, 1);
        check.due("it is one", y.told(10), 1);
        x = filled();
        before = bytes();
        dearest(x);
        long used = bytes() - before;
        check.due("calls make nothing, but made bytes", used < 2_000 ? 0 : used, 0);
        check.end("RoomTest");
    }

    private static long bytes() {
        return BEAN.getThreadAllocatedBytes(Thread.currentThread().getId());
    }

    private static DeedHands filled() {
        DeedHands x = new DeedHands();
        check.clause(x, 0, 0, "+kx+k1k2");
        check.clause(x, 1, 1, "@0+kpxk2");
        check.text(x, 0, "+r0+r0+r0+r0@1@0+p1q2");
        check.text(x, 1, "+r0+r0+r0+r0@1@0+p1q3");
        return x;
    }

    private static void dearest(DeedHands x) {
        for (int n = 0; n < CALLS / 8; n++) {
            x.all(0, n % 8, 4, 2);
            x.row(0, n % 8, 4, 2, 9, -1);
            x.apart(0, n % 8, 1, 3, 4, 2, -1);
            x.run(0, n % 8, 0);
            x.who(0, n % 8, 5);
            x.may(-1, n % 4);
            x.often(0, 0);
        }
    }
}
