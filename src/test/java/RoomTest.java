import java.lang.management.ManagementFactory;

/** One room for all calls of a run: an object and its dearest calls make no more than it holds. */
public final class RoomTest {
    private static final Check CHECK = new Check();
    /** Some 7.3 million fields and elements, of four bytes each. */
    private static final long ROOM = 4 * 7_300_000;
    private static final com.sun.management.ThreadMXBean BEAN =
        (com.sun.management.ThreadMXBean) ManagementFactory.getThreadMXBean();

    public static void main(String[] args) {
        CHECK.part("room");
        long id = Thread.currentThread().getId();
        new LifeDrawer();
        long before = allocated(id);
        LifeDrawer x = new LifeDrawer();
        Check.drawer(x, "life 90 1 99 9;".repeat(8) + "fact 0 5 60;".repeat(24) + "hours 12;half 4;");
        Check.law(x, "1" + "+1*age".repeat(24));
        Check.page(x, "0 0;1 0;2 0;");
        // some 30 calls a time
        for (int i = 0; i < 14; i++) dearest(x);
        texts(x);
        long made = allocated(id) - before;
        System.out.println(made + " bytes made by one object and its calls");
        CHECK.due("bytes made within the room", Math.max(ROOM, made), ROOM);
        CHECK.close("RoomTest");
    }

    private static long allocated(long id) {
        return BEAN.getThreadAllocatedBytes(id);
    }

    private static void dearest(LifeDrawer x) {
        for (int n = 1; n <= 3; n++) {
            x.best(n, 0);
            x.bestIn(n, 0);
        }
        x.undo();
        x.image();
        x.restore();
        x.span(5, 20, 60, 2, 0);
        x.years(5, 60, 3);
        x.often(0, 9);
        x.yearly(0, 9, 30, 1);
        x.worst();
        x.due(0, 65);
        x.room(255, 200);
        x.lines(255, 200, 7);
        x.apart(255, 1);
        x.whose();
        x.first();
        x.risk(1);
        x.expects(0, 7, 1);
        x.chain(0, 0);
        x.line(3, 40, 50, 60);
        x.told(4);
        x.work(0);
    }

    private static void texts(LifeDrawer x) {
        x.feed(0x28282828, 0x28282828, 0x28282828, 0x28282828, 0x28282828);
        x.law(20);
        x.feed(0x61676169, 0x6e20325b, 0x7765656b, 0x3b5d3b20, 0x20202020);
        x.work(20);
        x.feed(0x6c696665, 0x20312032, 0x20332034, 0x3b206861, 0x6c662033);
        x.drawer(13);
        CHECK.due("the last was read", x.told(0), 1);
    }
}
