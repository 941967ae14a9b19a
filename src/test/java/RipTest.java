/** Promise 7: rip. */
public final class RipTest {
    private static final Due due = new Due();

    public static void main(String[] args) {
        leavesThePins();
        takesViasOfItsCells();
        keepsWhatIsNotIts();
        takesItsPinsBack();
        refuses();
        due.end();
    }

    private static void leavesThePins() {
        GridRouter router = new GridRouter(2, 0, 0, 0);
        router.net(0, 0, 0, 1, 3, 0);
        router.net(0, 0, 1, 0, 3, 1);
        router.route(0);
        router.route(1);
        due.picture("before", router, 4, 2, "0... 0000 #...", "1111 .... ....");
        router.rip(0);
        due.picture("net 0 is gone but for its pins", router, 4, 2, "0... ...0 ....", "1111 .... ....");
        router.rip(0);
        router.rip(1);
        due.picture("net 1 is gone but for its pins", router, 4, 2, "0... ...0 ....", "1..1 .... ....");
    }

    private static void takesViasOfItsCells() {
        GridRouter router = new GridRouter(2, 0, 0, 0);
        router.net(0, 0, 0, 0, 3, 0);
        router.net(1, 0, 1, 1, 3, 1);
        router.paint(0, 1, 0, 0);
        router.paint(1, 2, 0, 0);
        router.paint(1, 1, 0, 1);
        for (int x = 0; x < 4; x++) {
            router.stitch(x, 0);
            router.stitch(x, 1);
        }
        router.rip(0);
        due.picture("vias at its cells and pins are gone, half or whole", router, 4, 2,
                "0..0 .1.. ....", ".... 1..1 ####");
        router.rip(1);
        due.picture("vias at net 1's pins are gone, nobody's stay", router, 4, 2,
                "0..0 .... ....", ".... 1..1 .##.");
    }

    private static GridRouter paintedOver() {
        GridRouter router = new GridRouter(2, 0, 0, 0);
        router.net(0, 0, 0, 0, 3, 0);
        router.net(1, 0, 1, 1, 3, 1);
        router.paint(0, 0, 0, 1);
        router.paint(1, 0, 0, 1);
        router.paint(0, 3, 0, -1);
        for (int x = 0; x < 4; x++) {
            router.stitch(x, 0);
        }
        return router;
    }

    private static void keepsWhatIsNotIts() {
        GridRouter router = paintedOver();
        router.rip(1);
        due.picture("another's pin is no pin of net 1, and not given back by its rip", router, 4, 2,
                ".... .... .###", ".... 1..1 ....");
    }

    private static void takesItsPinsBack() {
        GridRouter router = paintedOver();
        router.rip(0);
        due.picture("both pins are left, and the vias there, which were not its", router, 4, 2,
                "0..0 1... ####", ".... 1..1 ....");
        router.rip(0);
        due.picture("a second rip takes the vias, which are its by now", router, 4, 2,
                "0..0 1... .##.", ".... 1..1 ....");
        router.rip(1);
        due.picture("what held a pin is gone", router, 4, 2, "0..0 .... .##.", ".... 1..1 ....");
    }

    private static void refuses() {
        GridRouter router = new GridRouter(0, 0, 0, 0);
        due.fails("rip(0) without nets", IndexOutOfBoundsException.class, () -> router.rip(0));
        router.net(0, 0, 0, 0, 1, 1);
        for (int net : new int[] {-1, 1, Integer.MAX_VALUE, Integer.MIN_VALUE}) {
            due.fails("rip(" + net + ")", IndexOutOfBoundsException.class, () -> router.rip(net));
        }
    }
}
