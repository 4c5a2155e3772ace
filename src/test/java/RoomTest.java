import java.lang.management.ManagementFactory;

/** One room for all calls: no call makes objects, but for the exception that it throws; the dearest drawer ends soon. */
public final class RoomTest {
    private static final Check CHECK = new Check();
    private static final long METER = 512;
    private static final com.sun.management.ThreadMXBean BEAN =
        (com.sun.management.ThreadMXBean) ManagementFactory.getThreadMXBean();

    public static void main(String[] args) {
        CHECK.part("room");
        long id = Thread.currentThread().getId();
        new LifeDrawer();
        allocated(id);
        long before = allocated(id);
        LifeDrawer x = new LifeDrawer();
        long made = allocated(id) - before;
        CHECK.due("bytes of a new object within 64 KiB", Math.max(65_536, made), 65_536);
        Check.drawer(x, "life 90 1 99 9;".repeat(8) + "fact 0 5 60;".repeat(24) + "hours 12;half 4;");
        String law = "1" + "+1*age".repeat(24);
        Check.law(x, law);
        Check.page(x, "0 0;1 0;2 0;");
        warm(x);
        before = allocated(id);
        for (int i = 0; i < 20; i++) warm(x);
        CHECK.due("bytes that calls make within the meter's own", Math.max(METER, allocated(id) - before), METER);
        texts(x, id);
        CHECK.close("RoomTest");
    }

    private static long allocated(long id) {
        return BEAN.getThreadAllocatedBytes(id);
    }

    private static void warm(LifeDrawer x) {
        for (int n = 1; n <= 3; n++) {
            x.best(n, 0);
            x.bestIn(n, 0);
        }
        x.undo();
        x.image();
        x.restore();
        x.span(5, 20, 60, 2, 0);
        x.years(5, 60, 3);
        x.often(0, 9);
        x.yearly(0, 9, 30, 1);
        x.worst();
        x.due(0, 65);
        x.room(255, 200);
        x.lines(255, 200, 7);
        x.apart(255, 1);
        x.whose();
        x.first();
        x.risk(1);
        x.expects(0, 7, 1);
        x.chain(0, 0);
        x.line(3, 40, 50, 60);
        x.told(4);
        x.work(0);
    }

    /** Texts too are read without new objects; the fed numbers are made ahead, so that only the class is measured. */
    private static void texts(LifeDrawer x, long id) {
        int[] v = new int[5];
        for (int round = 0; round < 3; round++) {
            long before = allocated(id);
            for (int i = 0; i < 5; i++) v[i] = 0x28282828;
            x.feed(v[0], v[1], v[2], v[3], v[4]);
            x.law(20);
            x.feed(0x61676169, 0x6e20325b, 0x7765656b, 0x3b5d3b20, 0x20202020);
            x.work(20);
            x.feed(0x6c696665, 0x20312032, 0x20332034, 0x3b206861, 0x6c662033);
            x.drawer(13);
            long bytes = allocated(id) - before;
            if (round > 0) CHECK.due("bytes that texts make within the meter's own", Math.max(METER, bytes), METER);
        }
        CHECK.due("the last was read", x.told(0), 1);
    }
}
