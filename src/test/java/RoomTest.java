import java.lang.management.ManagementFactory;

/** The room of a run: calls make no objects, the constructor makes few, and the dearest calls end. */
public final class RoomTest {
    private static final Due DUE = new Due("RoomTest");
    private static final com.sun.management.ThreadMXBean THREADS =
        (com.sun.management.ThreadMXBean) ManagementFactory.getThreadMXBean();

    public static void main(String[] args) {
        newObjectsAreSmall();
        callsMakeNothing();
        theLastCall();
        DUE.end();
    }

    private static long made() {
        return THREADS.getThreadAllocatedBytes(Thread.currentThread().getId());
    }

    private static void newObjectsAreSmall() {
        new PageMonitor();
        made();
        long before = made();
        PageMonitor x = new PageMonitor();
        long bytes = made() - before;
        DUE.same("a new object has all pages free", x.told(0, 0), 0);
        DUE.same("a new object takes " + bytes + " bytes, at most 20000", bytes <= 20000 ? 1 : 0, 1);
    }

    /** A thread that vouches and compares without end, and a space that is built and taken apart. */
    private static void callsMakeNothing() {
        PageMonitor x = Bench.building(Bench.op(9, 0, 0, 0), Bench.op(10, 2, 1, 0), Bench.op(8, 0, 0, -3));
        x.share(0, 1, 3, 0);
        x.share(0, 2, 3, 1);
        x.finish(0);
        long before = made();
        DUE.same("enter", x.enter(2, 16, 16, 2000), 8);
        for (int k = 0; k < 40; k++) {
            DUE.same("resume", x.resume(2, 2000), 8);
        }
        for (int k = 0; k < 30; k++) {
            int answers = x.space(5) + x.table(6, 5, 0) + x.data(7, 5, 0, 7, 0) + x.share(5, 1, 3, 1)
                + x.thread(8, 5, 0) + x.spare(9, 5) + x.finish(5) + x.measure(5, 0) * 0 + x.stop(5)
                + x.remove(6) + x.remove(7) + x.remove(8) + x.remove(9) + x.remove(5);
            DUE.same("a space is built and taken apart", answers, 0);
        }
        long bytes = made() - before;
        DUE.same("461 calls made " + bytes + " bytes, at most 100000", bytes <= 100000 ? 1 : 0, 1);
    }

    /**
     * Promises 15 to 17: "An object is used for at most 512 calls after it has been made": the last of them
     * answers as the first did, when all before were as dear as can be.
     */
    private static void theLastCall() {
        PageMonitor x = Bench.building(Bench.op(10, 2, 1, 0), Bench.op(2, 3, 0, 0), Bench.op(8, 0, 0, -3));
        x.share(0, 1, 3, 0);
        x.share(0, 2, 3, 1);
        x.finish(0);
        int made = 32 + 4 + 3;
        DUE.same("enter", x.enter(2, 1, 16, 2000), 8);
        for (int call = made + 2; call < 511; call++) {
            DUE.same("call " + call, x.resume(2, 2000), 8);
        }
        DUE.same("call 511", x.steps(), 2000);
        DUE.same("call 512", x.resume(2, 2000), 8);
    }
}
