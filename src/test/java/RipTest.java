/** Promise 7: rip. */
public final class RipTest {
    private static final Due due = new Due();

    public static void main(String[] args) {
        leavesThePins();
        takesViasOfItsCells();
        keepsWhatIsNotIts();
        takesItsPinsBack();
        takesEachPinBack();
        leavesPinsAlone();
        takesAWholeLayout();
        refusesWhatIsNoNet();
        due.end();
    }

    private static void leavesThePins() {
        GridRouter router = new GridRouter(2, 0, 0, 0);
        router.net(0, 0, 0, 1, 3, 0);
        router.net(0, 0, 1, 0, 3, 1);
        router.route(0);
        router.route(1);
        due.picture("before", router, 4, 2, "0... 0000 #...", "1111 .... ....");
        router.rip(0);
        due.picture("net 0 is gone but for its pins", router, 4, 2, "0... ...0 ....", "1111 .... ....");
        router.rip(0);
        router.rip(1);
        due.picture("net 1 is gone but for its pins", router, 4, 2, "0... ...0 ....", "1..1 .... ....");
    }

    private static void takesViasOfItsCells() {
        GridRouter router = new GridRouter(2, 0, 0, 0);
        router.net(0, 0, 0, 0, 3, 0);
        router.net(1, 0, 1, 1, 3, 1);
        router.paint(0, 1, 0, 0);
        router.paint(1, 2, 0, 0);
        router.paint(1, 1, 0, 1);
        for (int x = 0; x < 4; x++) {
            router.stitch(x, 0);
            router.stitch(x, 1);
        }
        router.rip(0);
        due.picture("vias at its cells and pins are gone, half or whole", router, 4, 2,
                "0..0 .1.. ....", ".... 1..1 ####");
        router.rip(1);
        due.picture("vias at net 1's pins are gone, nobody's stay", router, 4, 2,
                "0..0 .... ....", ".... 1..1 .##.");
    }

    private static GridRouter paintedOver() {
        GridRouter router = new GridRouter(2, 0, 0, 0);
        router.net(0, 0, 0, 0, 3, 0);
        router.net(1, 0, 1, 1, 3, 1);
        router.paint(0, 0, 0, 1);
        router.paint(1, 0, 0, 1);
        router.paint(0, 3, 0, -1);
        for (int x = 0; x < 4; x++) {
            router.stitch(x, 0);
        }
        return router;
    }

    private static void keepsWhatIsNotIts() {
        GridRouter router = paintedOver();
        router.rip(1);
        due.picture("another's pin is no pin of net 1, and not given back by its rip", router, 4, 2,
                ".... .... .###", ".... 1..1 ....");
    }

    private static void takesItsPinsBack() {
        GridRouter router = paintedOver();
        router.rip(0);
        due.picture("both pins are left, and the vias there, which were not its", router, 4, 2,
                "0..0 1... ####", ".... 1..1 ....");
        router.rip(0);
        due.picture("a second rip takes the vias, which are its by now", router, 4, 2,
                "0..0 1... .##.", ".... 1..1 ....");
        router.rip(1);
        due.picture("what held a pin is gone", router, 4, 2, "0..0 .... .##.", ".... 1..1 ....");
    }

    private static void takesEachPinBack() {
        for (int far = 0; far < 2; far++) {
            for (int first = -1; first < 2; first++) {
                for (int second = -1; second < 2; second++) {
                    GridRouter router = new GridRouter(1, 0, 0, far);
                    router.net(0, 0, 0, 0, 2, 0);
                    router.net(1, 0, 1, 1, 2, 1);
                    router.paint(0, 0, 0, first);
                    router.paint(0, 2, 0, second);
                    router.paint(1, 1, 0, 0);
                    router.paint(0, 1, 1, 1);
                    router.rip(0);
                    due.picture("pins painted " + Edges.told(first, second), router, 3, 2,
                            "0.0 ... ...", ".1. 1.1 ...");
                }
            }
        }
    }

    private static void leavesPinsAlone() {
        GridRouter router = new GridRouter(1, 0, 0, 0);
        router.net(0, 0, 0, 0, 2, 0);
        router.net(1, 0, 1, 1, 2, 1);
        router.block(0, 1, 0);
        router.stitch(1, 1);
        String state = State.of(router);
        router.rip(0);
        router.rip(1);
        due.is("nothing but pins, nothing is gone", State.of(router), state);
    }

    private static void takesAWholeLayout() {
        GridRouter router = new GridRouter(0, 0, 0, 1);
        router.net(0, 0, 0, 1, 1, 1);
        router.net(0, 1, 1, 1, 0, 0);
        for (int y = 0; y < 2; y++) {
            for (int x = 0; x < 2; x++) {
                router.paint(0, x, y, 0);
                router.paint(1, x, y, 0);
                router.stitch(x, y);
            }
        }
        router.block(0, 1, 0);
        router.rip(0);
        due.picture("all cells and vias were its own", router, 2, 2, "0. .. ..", ".. .0 ..");
        due.is("a block stays", router.block(0, 1, 0), false);
    }

    private static GridRouter used() {
        GridRouter router = new GridRouter(1, 0, 3, 0);
        router.net(0, 0, 0, 0, 2, 0);
        router.net(1, 0, 1, 1, 2, 1);
        router.route(0);
        router.block(0, 1, 1);
        router.stitch(2, 1);
        router.paint(0, 2, 0, -1);
        return router;
    }

    /** "IndexOutOfBoundsException if there is no such net". */
    private static void refusesWhatIsNoNet() {
        for (int net : Edges.beyond(2)) {
            due.refuses("rip(" + net + ")", IndexOutOfBoundsException.class, RipTest::used,
                    router -> router.rip(net));
        }
        for (int net : Edges.beyond(0)) {
            due.refuses("rip(" + net + ") without nets", IndexOutOfBoundsException.class,
                    () -> new GridRouter(0, 0, 0, 0), router -> router.rip(net));
        }
        due.refuses("rip(6) of six", IndexOutOfBoundsException.class, Edges::sixNets, router -> router.rip(6));
    }
}
