import com.sun.management.ThreadMXBean;
import java.lang.management.ManagementFactory;

/** All calls of a run live in one room: no call that throws nothing makes objects, in all of an object's 512. */
public final class RoomTest {
    private static final int NETS = 6;
    private static final int CALLS = 512 - NETS;
    private static final long MOST_BYTES = 16 * 1024;

    public static void main(String[] args) {
        Due due = new Due();
        ThreadMXBean beans = (ThreadMXBean) ManagementFactory.getThreadMXBean();
        long thread = Thread.currentThread().getId();
        use(made(), NETS);
        GridRouter router = made();
        long before = beans.getThreadAllocatedBytes(thread);
        use(router, CALLS);
        long bytes = beans.getThreadAllocatedBytes(thread) - before;
        due.is("few bytes are made in " + CALLS + " calls (" + bytes + ")", bytes <= MOST_BYTES, true);
        due.end();
    }

    private static GridRouter made() {
        GridRouter router = new GridRouter(7, 7, 3, 0);
        for (int net = 0; net < NETS; net++) {
            router.net(0, net, 0, 0, 8 - net, 8);
        }
        return router;
    }

    private static void use(GridRouter router, int calls) {
        for (int i = 0; i < calls; i++) {
            switch (i % 7) {
                case 0 -> router.push(i % NETS);
                case 1 -> router.route(i % NETS);
                case 2 -> router.faults(i % 4);
                case 3 -> router.shapes();
                case 4 -> router.shape(NETS, i % 5);
                case 5 -> router.rip(i % NETS);
                default -> router.all(i % 2 == 0, 20);
            }
        }
    }
}
