/** Promise 12: faults. */
public final class FaultsTest {
    private static final Due due = new Due();

    public static void main(String[] args) {
        misplacedCells();
        crowds();
        badVias();
        pinsNotJoined();
        emptyLayouts();
        eachKindAlone();
        pinsOfOthers();
        edgesAreNoNeighbours();
        fullLayouts();
        refusesWhatIsNoKind();
        due.end();
    }

    private static void misplacedCells() {
        GridRouter router = new GridRouter(2, 0, 0, 0);
        router.net(0, 0, 0, 0, 3, 0);
        router.net(1, 0, 0, 1, 3, 0);
        router.block(0, 1, 0);
        due.is("a block alone is no fault", router.faults(0), 0);
        router.paint(0, 1, 0, 0);
        due.is("a net's cell on a block", router.faults(0), 1);
        router.paint(0, 3, 0, 1);
        due.is("a net's cell on another's second pin", router.faults(0), 2);
        router.paint(1, 0, 0, 0);
        due.is("a net's cell on another's first pin", router.faults(0), 3);
        router.paint(0, 3, 0, -1);
        due.is("none's cell on a pin is none", router.faults(0), 2);
        router.paint(0, 2, 0, 1);
        due.is("a net's cell elsewhere is none", router.faults(0), 2);
        router.paint(0, 0, 1, 0);
        router.block(0, 0, 1);
        due.is("a block under a net's cell", router.faults(0), 3);
        router.block(0, 0, 1);
        due.is("the block is gone", router.faults(0), 2);
    }

    private static GridRouter crowded(int far) {
        GridRouter router = new GridRouter(1, 1, 0, far);
        router.net(0, 0, 0, 0, 2, 0);
        router.net(0, 0, 2, 0, 2, 2);
        router.paint(0, 1, 1, 1);
        router.paint(0, 1, 0, 0);
        router.paint(0, 2, 1, 0);
        router.paint(1, 1, 1, 0);
        return router;
    }

    private static void crowds() {
        GridRouter router = crowded(1);
        due.is("pairs of neighbours, not of opposites", router.faults(1), 3);
        router.paint(0, 0, 1, 0);
        due.is("two pairs more", router.faults(1), 5);
        router.paint(0, 1, 2, 0);
        due.is("three pairs more", router.faults(1), 8);
        router.paint(0, 1, 1, -1);
        due.is("none's neighbours are no pair", router.faults(1), 4);
        router.paint(1, 2, 1, 1);
        due.is("a pair on layer 1", router.faults(1), 5);
        due.is("spacing 1", crowded(0).faults(1), 0);
    }

    private static void badVias() {
        GridRouter router = new GridRouter(0, 0, 0, 0);
        router.net(0, 0, 0, 1, 0, 0);
        router.net(0, 1, 0, 1, 1, 1);
        router.stitch(0, 0);
        due.is("a via between two cells of a net", router.faults(2), 0);
        router.stitch(1, 1);
        due.is("a via over none's cell", router.faults(2), 1);
        router.stitch(1, 0);
        due.is("a via under none's cell", router.faults(2), 2);
        router.stitch(0, 1);
        due.is("a via between none's cells", router.faults(2), 3);
        router.paint(1, 1, 0, 0);
        due.is("a via between two nets", router.faults(2), 3);
        router.paint(1, 1, 0, 1);
        due.is("a via of net 1", router.faults(2), 2);
        router.paint(0, 1, 1, 0);
        due.is("a via between two nets at the end", router.faults(2), 2);
    }

    private static void pinsNotJoined() {
        GridRouter router = new GridRouter(1, 1, 0, 0);
        due.is("without nets", router.faults(3), 0);
        router.net(0, 0, 0, 1, 2, 2);
        due.is("pins alone", router.faults(3), 1);
        int[][] bend = {{0, 1, 0}, {0, 2, 0}, {0, 2, 1}, {1, 2, 1}};
        for (int[] at : bend) {
            router.paint(at[0], at[1], at[2], 0);
        }
        due.is("without a via", router.faults(3), 1);
        router.stitch(2, 2);
        router.stitch(0, 0);
        due.is("with vias elsewhere", router.faults(3), 1);
        router.stitch(2, 1);
        due.is("with a via", router.faults(3), 0);
        router.paint(0, 1, 0, -1);
        due.is("with a gap", router.faults(3), 1);
        router.paint(0, 0, 1, 0);
        router.paint(0, 1, 1, 0);
        due.is("another way round", router.faults(3), 0);
        router.paint(0, 0, 0, -1);
        due.is("the first pin is none's", router.faults(3), 1);
        router.paint(0, 0, 0, 0);
        router.paint(1, 2, 2, -1);
        due.is("the second pin is none's", router.faults(3), 1);
        router.paint(1, 2, 2, 0);
        router.net(0, 1, 0, 0, 1, 2);
        due.is("net 1 is not joined", router.faults(3), 1);
        router.paint(0, 1, 1, 1);
        due.is("net 1 cuts net 0", router.faults(3), 1);
        router.paint(0, 1, 1, -1);
        due.is("neither is joined", router.faults(3), 2);
    }

    private static void faultsAre(String when, GridRouter router, int... want) {
        for (int kind = 0; kind < 4; kind++) {
            due.is(when + ": faults(" + kind + ")", router.faults(kind), want[kind]);
        }
    }

    private static void emptyLayouts() {
        for (int far = 0; far < 2; far++) {
            faultsAre("the smallest grid", new GridRouter(0, 0, 0, far), 0, 0, 0, 0);
            faultsAre("the largest grid", new GridRouter(7, 7, 0, far), 0, 0, 0, 0);
            GridRouter router = new GridRouter(1, 0, 0, far);
            router.block(0, 1, 1);
            faultsAre("a block alone", router, 0, 0, 0, 0);
            router.net(0, 0, 0, 1, 2, 1);
            router.paint(0, 0, 0, -1);
            router.paint(1, 2, 1, -1);
            faultsAre("an empty layout with a net", router, 0, 0, 0, 1);
        }
    }

    /** Spacing 2; net 0 is joined above, net 1 below, two rows between them. */
    private static GridRouter clean() {
        GridRouter router = new GridRouter(2, 2, 0, 1);
        router.net(0, 0, 0, 0, 3, 0);
        router.net(0, 0, 3, 0, 3, 3);
        router.route(0);
        router.route(1);
        return router;
    }

    private static void eachKindAlone() {
        faultsAre("a clean layout", clean(), 0, 0, 0, 0);
        GridRouter blocked = clean();
        blocked.block(0, 1, 0);
        faultsAre("kind 0 alone, a block", blocked, 1, 0, 0, 0);
        GridRouter crowd = clean();
        crowd.paint(0, 1, 1, 1);
        faultsAre("kind 1 alone", crowd, 0, 1, 0, 0);
        GridRouter stitched = clean();
        stitched.stitch(2, 2);
        faultsAre("kind 2 alone, no cell", stitched, 0, 0, 1, 0);
        stitched.stitch(1, 0);
        faultsAre("kind 2 alone, one cell", stitched, 0, 0, 2, 0);
        stitched.paint(1, 1, 0, 1);
        faultsAre("kind 2 alone, two nets", stitched, 0, 0, 2, 0);
        GridRouter cut = clean();
        cut.paint(0, 1, 3, -1);
        faultsAre("kind 3 alone", cut, 0, 0, 0, 1);
        cut.rip(0);
        faultsAre("kind 3 alone, both nets", cut, 0, 0, 0, 2);
        GridRouter pin = new GridRouter(2, 2, 0, 0);
        pin.net(0, 0, 0, 0, 3, 0);
        pin.net(0, 0, 3, 0, 3, 3);
        pin.route(0);
        pin.route(1);
        pin.paint(0, 3, 0, 1);
        faultsAre("another's pin is kind 0, and its net is not joined", pin, 1, 0, 0, 1);
    }

    /** "the pins must be of it, too": none's or another's, the first, the second or both. */
    private static void pinsOfOthers() {
        for (int first = -1; first < 2; first++) {
            for (int second = -1; second < 2; second++) {
                GridRouter router = new GridRouter(1, 0, 0, 0);
                router.net(0, 0, 0, 0, 2, 0);
                router.net(1, 0, 1, 1, 0, 0);
                router.route(0);
                router.route(1);
                router.paint(0, 0, 0, first);
                router.paint(0, 2, 0, second);
                due.is("pins painted " + Edges.told(first, second), router.faults(3),
                        first == 0 && second == 0 ? 0 : 1);
            }
        }
        GridRouter beside = new GridRouter(0, 0, 0, 0);
        beside.net(0, 0, 0, 0, 1, 0);
        due.is("pins side by side", beside.faults(3), 0);
        beside.paint(0, 0, 0, -1);
        beside.paint(0, 1, 0, -1);
        due.is("pins side by side, both none's", beside.faults(3), 1);
        GridRouter opposite = new GridRouter(0, 0, 0, 0);
        opposite.net(1, 1, 1, 0, 1, 1);
        due.is("opposite pins without a via", opposite.faults(3), 1);
        opposite.stitch(1, 1);
        due.is("opposite pins with a via", opposite.faults(3), 0);
    }

    /** The end of a row is no neighbour of the next row's beginning, nor one layer's of the other's. */
    private static void edgesAreNoNeighbours() {
        GridRouter router = new GridRouter(1, 1, 0, 1);
        router.net(0, 2, 0, 0, 2, 2);
        router.net(0, 0, 1, 1, 0, 0);
        due.is("row ends and beginnings are no crowd", router.faults(1), 0);
        router.rip(1);
        router.paint(0, 0, 1, 0);
        router.paint(0, 2, 1, -1);
        router.paint(1, 0, 0, 0);
        router.paint(1, 1, 0, 0);
        router.paint(1, 2, 0, 0);
        due.is("row ends and beginnings do not join", router.faults(3), 2);
    }

    private static void fullLayouts() {
        GridRouter router = new GridRouter(5, 5, 0, 1);
        router.net(0, 0, 0, 1, 6, 6);
        router.net(0, 6, 6, 1, 0, 0);
        for (int y = 0; y < 7; y++) {
            for (int x = 0; x < 7; x++) {
                router.paint(0, x, y, 0);
                router.paint(1, x, y, 0);
                router.stitch(x, y);
            }
        }
        faultsAre("all of net 0", router, 2, 0, 0, 1);
        for (int y = 0; y < 7; y++) {
            for (int x = 0; x < 7; x++) {
                router.paint((x + y) % 2, x, y, 1);
            }
        }
        faultsAre("two nets in turn", router, 2, 168, 49, 2);
        GridRouter vias = new GridRouter(7, 7, 0, 1);
        for (int y = 0; y < 9; y++) {
            for (int x = 0; x < 9; x++) {
                vias.stitch(x, y);
            }
        }
        faultsAre("all vias, no cells", vias, 0, 0, 81, 0);
    }

    /** "IllegalArgumentException if there is no such kind". */
    private static void refusesWhatIsNoKind() {
        for (int kind : Edges.beyond(4)) {
            due.refuses("faults(" + kind + ")", IllegalArgumentException.class, FaultsTest::used,
                    router -> router.faults(kind));
        }
        due.fails("faults(-1) of an empty layout", IllegalArgumentException.class,
                () -> new GridRouter(0, 0, 0, 0).faults(-1));
        due.fails("faults(4) of an empty layout", IllegalArgumentException.class,
                () -> new GridRouter(0, 0, 0, 0).faults(4));
        faultsAre("there are the kinds 0 and 3, and those between", used(), 1, 1, 1, 1);
    }

    private static GridRouter used() {
        GridRouter router = new GridRouter(1, 0, 0, 1);
        router.net(0, 0, 0, 0, 0, 1);
        router.net(0, 2, 0, 1, 2, 1);
        router.paint(0, 1, 0, 1);
        router.block(0, 1, 0);
        router.stitch(1, 1);
        return router;
    }
}
