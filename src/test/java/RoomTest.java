import java.lang.management.ManagementFactory;

/** LANGUAGE.md 12: an object takes its room when it is made, and its dearest calls take none. */
public final class RoomTest {
    private static final long OBJECT_BYTES = 80_000;
    private static final long CALLS_BYTES = 20_000;

    public static void main(String[] args) {
        if (allocated() < 0) {
            System.out.println("this machine does not count bytes");
            return;
        }
        fill(new WhiteElephants());
        long start = allocated();
        WhiteElephants x = new WhiteElephants();
        long made = allocated();
        fill(x);
        long end = allocated();
        System.out.println(made - start + " bytes for an object, " + (end - made) + " for its calls");
        if (made - start > OBJECT_BYTES || end - made > CALLS_BYTES) {
            System.exit(1);
        }
    }

    /** The bytes that this thread has taken so far; looked up by name, for not every JDK can tell. */
    private static long allocated() {
        try {
            Object bean = ManagementFactory.getThreadMXBean();
            Class<?> counter = Class.forName("com.sun.management.ThreadMXBean");
            Object bytes = counter.getMethod("getThreadAllocatedBytes", long.class)
                .invoke(bean, Thread.currentThread().getId());
            return (Long) bytes;
        } catch (ReflectiveOperationException | IllegalArgumentException e) {
            return -1;
        }
    }

    private static void fill(WhiteElephants x) {
        for (int i = 0; i < 30; i++) {
            x.thing(i % 6, 900 - 7 * i, i);
            x.mark(i, 300 + 11 * i);
            x.lady(21, 10 * i);
            x.buyer(i % 5, 9999, 63, 150);
            x.table(i % 64);
            x.sight(i, i & 3, -1, i % 5);
            x.secret(i, i % 16);
            x.feed(0x6d6f7374, 4);
            x.feed(0x20393038, 4);
            x.law();
            x.row(i % 8, i % 5, 40);
        }
        x.image();
        for (int i = 0; i < 9; i++) {
            x.best();
            x.shown(200);
            x.who(-1);
            x.vases();
            x.longest();
            x.laid(2, i);
            x.hall(i % 3, i);
            x.go(1);
            x.shortBy(9999);
            x.judge(i % 8);
            x.rest(-1);
        }
        x.back();
    }
}
