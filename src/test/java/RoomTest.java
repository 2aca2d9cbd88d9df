import java.lang.management.ManagementFactory;

/** A run of 512 of the dearest calls makes little: rows are made once and used again. */
public final class RoomTest {
    private static final Due due = new Due("RoomTest");
    private static final long MOST = 1000000;

    public static void main(String[] args) {
        run();
        long before = made();
        run();
        long all = made() - before;
        due.is("bytes made in a run (" + all + ") are few", all < MOST, true);
        due.end();
    }

    private static long made() {
        com.sun.management.ThreadMXBean bean = (com.sun.management.ThreadMXBean) ManagementFactory.getThreadMXBean();
        return bean.getThreadAllocatedBytes(Thread.currentThread().getId());
    }

    private static void run() {
        SpanMap x = new SpanMap();
        x.fetch(0);
        x.split(0, 500);
        for (int i = 0; i < 84; i++) {
            x.feed(0x73706c69, 0x74302035, 0x3b6a6f69, 0x6e303b20, 0x6167653b);
            x.script();
            x.age();
            x.image(i % 2 == 0);
            x.rounds(0);
            x.hot(0, 0);
        }
        due.is("epochs are kept", x.changeOf(x.look(0), 0) > 0, true);
    }
}
