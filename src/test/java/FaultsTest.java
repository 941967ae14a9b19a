/** Promise 12: faults. */
public final class FaultsTest {
    private static final Due due = new Due();

    public static void main(String[] args) {
        misplacedCells();
        crowds();
        badVias();
        pinsNotJoined();
        refuses();
        due.end();
    }

    private static void misplacedCells() {
        GridRouter router = new GridRouter(2, 0, 0, 0);
        router.net(0, 0, 0, 0, 3, 0);
        router.net(1, 0, 0, 1, 3, 0);
        router.block(0, 1, 0);
        due.is("a block alone is no fault", router.faults(0), 0);
        router.paint(0, 1, 0, 0);
        due.is("a net's cell on a block", router.faults(0), 1);
        router.paint(0, 3, 0, 1);
        due.is("a net's cell on another's second pin", router.faults(0), 2);
        router.paint(1, 0, 0, 0);
        due.is("a net's cell on another's first pin", router.faults(0), 3);
        router.paint(0, 3, 0, -1);
        due.is("none's cell on a pin is none", router.faults(0), 2);
        router.paint(0, 2, 0, 1);
        due.is("a net's cell elsewhere is none", router.faults(0), 2);
        router.paint(0, 0, 1, 0);
        router.block(0, 0, 1);
        due.is("a block under a net's cell", router.faults(0), 3);
        router.block(0, 0, 1);
        due.is("the block is gone", router.faults(0), 2);
    }

    private static GridRouter crowded(int far) {
        GridRouter router = new GridRouter(1, 1, 0, far);
        router.net(0, 0, 0, 0, 2, 0);
        router.net(0, 0, 2, 0, 2, 2);
        router.paint(0, 1, 1, 1);
        router.paint(0, 1, 0, 0);
        router.paint(0, 2, 1, 0);
        router.paint(1, 1, 1, 0);
        return router;
    }

    private static void crowds() {
        GridRouter router = crowded(1);
        due.is("pairs of neighbours, not of opposites", router.faults(1), 3);
        router.paint(0, 0, 1, 0);
        due.is("two pairs more", router.faults(1), 5);
        router.paint(0, 1, 2, 0);
        due.is("three pairs more", router.faults(1), 8);
        router.paint(0, 1, 1, -1);
        due.is("none's neighbours are no pair", router.faults(1), 4);
        router.paint(1, 2, 1, 1);
        due.is("a pair on layer 1", router.faults(1), 5);
        due.is("spacing 1", crowded(0).faults(1), 0);
    }

    private static void badVias() {
        GridRouter router = new GridRouter(0, 0, 0, 0);
        router.net(0, 0, 0, 1, 0, 0);
        router.net(0, 1, 0, 1, 1, 1);
        router.stitch(0, 0);
        due.is("a via between two cells of a net", router.faults(2), 0);
        router.stitch(1, 1);
        due.is("a via over none's cell", router.faults(2), 1);
        router.stitch(1, 0);
        due.is("a via under none's cell", router.faults(2), 2);
        router.stitch(0, 1);
        due.is("a via between none's cells", router.faults(2), 3);
        router.paint(1, 1, 0, 0);
        due.is("a via between two nets", router.faults(2), 3);
        router.paint(1, 1, 0, 1);
        due.is("a via of net 1", router.faults(2), 2);
        router.paint(0, 1, 1, 0);
        due.is("a via between two nets at the end", router.faults(2), 2);
    }

    private static void pinsNotJoined() {
        GridRouter router = new GridRouter(1, 1, 0, 0);
        due.is("without nets", router.faults(3), 0);
        router.net(0, 0, 0, 1, 2, 2);
        due.is("pins alone", router.faults(3), 1);
        int[][] bend = {{0, 1, 0}, {0, 2, 0}, {0, 2, 1}, {1, 2, 1}};
        for (int[] at : bend) {
            router.paint(at[0], at[1], at[2], 0);
        }
        due.is("without a via", router.faults(3), 1);
        router.stitch(2, 2);
        router.stitch(0, 0);
        due.is("with vias elsewhere", router.faults(3), 1);
        router.stitch(2, 1);
        due.is("with a via", router.faults(3), 0);
        router.paint(0, 1, 0, -1);
        due.is("with a gap", router.faults(3), 1);
        router.paint(0, 0, 1, 0);
        router.paint(0, 1, 1, 0);
        due.is("another way round", router.faults(3), 0);
        router.paint(0, 0, 0, -1);
        due.is("the first pin is none's", router.faults(3), 1);
        router.paint(0, 0, 0, 0);
        router.paint(1, 2, 2, -1);
        due.is("the second pin is none's", router.faults(3), 1);
        router.paint(1, 2, 2, 0);
        router.net(0, 1, 0, 0, 1, 2);
        due.is("net 1 is not joined", router.faults(3), 1);
        router.paint(0, 1, 1, 1);
        due.is("net 1 cuts net 0", router.faults(3), 1);
        router.paint(0, 1, 1, -1);
        due.is("neither is joined", router.faults(3), 2);
    }

    private static void refuses() {
        GridRouter router = new GridRouter(0, 0, 0, 0);
        for (int kind : new int[] {-1, 4, 5, Integer.MAX_VALUE, Integer.MIN_VALUE}) {
            due.fails("faults(" + kind + ")", IllegalArgumentException.class, () -> router.faults(kind));
        }
    }
}
