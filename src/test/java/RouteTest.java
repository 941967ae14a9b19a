/** Promise 4: route. */
public final class RouteTest {
    private static final Due due = new Due();

    public static void main(String[] args) {
        choosesAmongEqualWays();
        changesLayers();
        keepsOffOthers();
        keepsItsSpace();
        pinsAreFree();
        goneIsWhatItHad();
        leastWays();
        longestWay();
        overTheFirstAndTheLastCell();
        noWayFromOrToAPin();
        noWayThroughWires();
        noWayBesidePins();
        spacingOneAndTwo();
        takesPaintedPinsBack();
        refusesWhatIsNoNet();
        due.end();
    }

    private static void choosesAmongEqualWays() {
        GridRouter down = new GridRouter(2, 1, 3, 0);
        down.net(0, 0, 0, 0, 3, 2);
        due.is("route", down.route(0), 5);
        due.picture("from the second pin back, x less by 1 first", down, 4, 3,
                "0... .... ....", "0... .... ....", "0000 .... ....");
        GridRouter up = new GridRouter(2, 1, 3, 0);
        up.net(0, 3, 2, 0, 0, 0);
        due.is("route back", up.route(0), 5);
        due.picture("x more by 1 before y", up, 4, 3,
                "0000 .... ....", "...0 .... ....", "...0 .... ....");
        GridRouter ring = new GridRouter(1, 1, 3, 0);
        ring.net(0, 1, 0, 0, 1, 2);
        ring.block(0, 1, 1);
        due.is("route round on either side", ring.route(0), 4);
        due.picture("x less before x more", ring, 3, 3, "00. ... ...", "0.. ... ...", "00. ... ...");
        GridRouter rise = new GridRouter(2, 1, 3, 0);
        rise.net(0, 3, 0, 0, 0, 2);
        due.is("route to a lower left", rise.route(0), 5);
        due.picture("x more before y less", rise, 4, 3,
                "...0 .... ....", "...0 .... ....", "0000 .... ....");
        GridRouter detour = new GridRouter(2, 1, 3, 0);
        detour.net(0, 0, 1, 0, 3, 1);
        detour.block(0, 1, 1);
        due.is("route round a block", detour.route(0), 5);
        due.picture("y less before y more", detour, 4, 3,
                "000. .... ....", "0.00 .... ....", ".... .... ....");
        GridRouter through = new GridRouter(1, 0, 0, 0);
        through.net(1, 0, 0, 0, 1, 1);
        due.is("route through a via", through.route(0), 3);
        due.picture("the opposite comes last", through, 3, 2,
                "0.. 0.. #..", "00. ... ...");
    }

    private static void changesLayers() {
        GridRouter router = new GridRouter(3, 0, 3, 0);
        router.net(0, 0, 0, 0, 4, 0);
        router.block(0, 2, 0);
        router.block(0, 2, 1);
        due.is("two vias for 4 each", router.route(0), 12);
        due.picture("under the blocks", router, 5, 2,
                "0..00 0000. #..#.", "..... ..... .....");
        router.block(1, 2, 0);
        due.is("round one more", router.route(0), 14);
        router.block(1, 2, 1);
        due.is("no way", router.route(0), -1);
        due.picture("only the pins are left", router, 5, 2, "0...0 ..... .....", "..... ..... .....");
    }

    private static void keepsOffOthers() {
        GridRouter router = new GridRouter(1, 0, 0, 0);
        router.net(0, 1, 0, 0, 1, 1);
        router.net(0, 0, 0, 0, 2, 0);
        due.is("over another's pins: none, under them", router.route(1), 4);
        router.paint(1, 1, 0, 0);
        due.is("round another's cell", router.route(1), 6);
        router.paint(1, 1, 1, 0);
        due.is("no way through others", router.route(1), -1);
        due.is("what is another's stays", router.cell(1, 1, 1), 0);
        router.paint(0, 1, 0, -1);
        due.is("a pin painted over is still barred", router.route(1), -1);
        router.paint(1, 1, 1, -1);
        due.is("a cell that is none's is free", router.route(1), 6);
    }

    private static void keepsItsSpace() {
        GridRouter router = new GridRouter(3, 3, 3, 1);
        router.net(0, 0, 2, 0, 4, 2);
        router.net(0, 2, 0, 1, 2, 0);
        due.is("beside no pin", router.route(0), 4);
        router.rip(0);
        router.net(1, 4, 4, 1, 4, 3);
        router.paint(0, 2, 1, 1);
        due.is("round a wire and its neighbours", router.route(0), 6);
        due.picture("one cell away from wires and pins", router, 5, 5,
                "..1.. ..1.. .....", "..1.. ..... .....", "0..00 ..... .....", "0000. ....2 .....",
                "..... ....2 .....");
        due.is("no crowd", router.faults(1), 0);
    }

    private static void pinsAreFree() {
        GridRouter router = new GridRouter(2, 0, 3, 1);
        router.net(0, 0, 0, 0, 3, 0);
        router.net(1, 0, 1, 1, 3, 1);
        router.paint(0, 0, 0, -1);
        router.paint(0, 3, 0, 1);
        router.paint(0, 3, 1, 1);
        router.stitch(3, 0);
        due.is("its pins are its own before a way is looked for, and free beside a wire", router.route(0), 3);
        due.picture("all its cells, and a via that was another's", router, 4, 2,
                "0000 .... ...#", "...1 1..1 ....");
        router.paint(0, 0, 0, -1);
        router.paint(0, 3, 0, 1);
        router.paint(0, 1, 1, 1);
        router.stitch(0, 0);
        due.is("what is beside a wire is not free", router.route(0), -1);
        due.picture("only its pins are left, both of them, and vias that were not its", router, 4, 2,
                "0..0 .... #..#", ".1.1 1..1 ....");
        due.is("still no way", router.route(0), -1);
        due.picture("the vias at its pins were its own by now", router, 4, 2,
                "0..0 .... ....", ".1.1 1..1 ....");
        GridRouter close = new GridRouter(0, 0, 0, 1);
        close.net(0, 0, 0, 0, 1, 0);
        close.net(1, 0, 1, 1, 1, 1);
        close.paint(0, 0, 1, 1);
        close.paint(0, 1, 0, 1);
        due.is("pins side by side, one beside a wire, one another's", close.route(0), 1);
        due.picture("the painted pin is taken back", close, 2, 2, "00 .. ..", "1. 11 ..");
    }

    private static void goneIsWhatItHad() {
        GridRouter router = new GridRouter(2, 1, 0, 0);
        router.net(0, 0, 0, 0, 3, 0);
        router.net(1, 0, 2, 1, 3, 2);
        router.paint(1, 2, 1, 0);
        router.stitch(2, 1);
        router.stitch(0, 0);
        router.stitch(1, 2);
        due.is("route", router.route(0), 3);
        due.picture("its old cells and vias are gone, others' stay", router, 4, 3,
                "0000 .... ....", ".... .... ....", ".... 1..1 .#..");
        due.is("the same again", router.route(0), 3);
    }

    private static void leastWays() {
        GridRouter beside = new GridRouter(0, 0, 0, 1);
        beside.net(1, 0, 0, 1, 0, 1);
        due.is("pins side by side", beside.route(0), 1);
        due.picture("its pins are all of its way", beside, 2, 2, ".. 0. ..", ".. 0. ..");
        GridRouter opposite = new GridRouter(0, 0, 2, 1);
        opposite.net(1, 1, 1, 0, 1, 1);
        due.is("opposite pins: one via", opposite.route(0), 3);
        due.picture("its pins and a via", opposite, 2, 2, ".. .. ..", ".0 .0 .#");
        GridRouter dear = new GridRouter(0, 0, 3, 0);
        dear.net(0, 0, 0, 1, 0, 0);
        due.is("a via has no cheaper way round", dear.route(0), 4);
        GridRouter closed = new GridRouter(0, 0, 0, 0);
        closed.net(0, 0, 0, 0, 1, 0);
        int[][] rest = {{0, 0, 1}, {0, 1, 1}, {1, 0, 0}, {1, 1, 0}, {1, 0, 1}, {1, 1, 1}};
        for (int[] at : rest) {
            closed.block(at[0], at[1], at[2]);
        }
        due.is("pins side by side, all else blocked", closed.route(0), 1);
    }

    /** To and fro over the whole of the largest grid, on one layer. */
    private static void longestWay() {
        GridRouter router = new GridRouter(7, 7, 0, 0);
        router.net(0, 0, 0, 0, 8, 8);
        for (int y = 0; y < 9; y++) {
            for (int x = 0; x < 9; x++) {
                router.block(1, x, y);
                if (y % 2 == 1 && x != (y % 4 == 1 ? 8 : 0)) {
                    router.block(0, x, y);
                }
            }
        }
        due.is("five rows and four steps between them", router.route(0), 48);
        due.is("its pins are joined", router.faults(3), 0);
        due.is("on no block", router.faults(0), 0);
        due.is("nine rows", router.shapes(), 9);
    }

    /** The one way goes over the grid's first cell (layer 0), or its last one (layer 1). */
    private static GridRouter overTheCorner(int layer) {
        GridRouter router = new GridRouter(0, 0, 3, 0);
        router.net(layer, 1 - layer, layer, layer, layer, 1 - layer);
        router.block(layer, 1 - layer, 1 - layer);
        router.block(1 - layer, 1, 0);
        router.block(1 - layer, 0, 1);
        return router;
    }

    private static void overTheFirstAndTheLastCell() {
        for (int layer = 0; layer < 2; layer++) {
            GridRouter router = overTheCorner(layer);
            due.is("over the corner", router.route(0), 2);
            due.is("the corner is its own", router.cell(layer, layer, layer), 0);
            router.block(layer, layer, layer);
            due.is("the corner is blocked", router.route(0), -1);
            router.block(layer, layer, layer);
            router.net(1 - layer, 0, 0, 1 - layer, 1, 1);
            router.paint(layer, layer, layer, 1);
            due.is("the corner is taken", router.route(0), -1);
            GridRouter pinned = overTheCorner(layer);
            pinned.net(layer, layer, layer, 1 - layer, 0, 0);
            due.is("the corner is another's pin", pinned.route(0), -1);
        }
    }

    /** "-1 if there is none": one pin is closed in, the first or the second one. */
    private static void noWayFromOrToAPin() {
        for (int turn = 0; turn < 2; turn++) {
            GridRouter router = new GridRouter(2, 1, 0, 0);
            if (turn == 0) {
                router.net(0, 0, 0, 1, 3, 2);
            } else {
                router.net(1, 3, 2, 0, 0, 0);
            }
            router.paint(0, 2, 2, 0);
            router.stitch(2, 2);
            router.stitch(1, 1);
            router.block(0, 1, 0);
            router.block(0, 0, 1);
            due.is("one step is free yet", router.route(0), 6);
            router.block(1, 0, 0);
            due.is("no step is free", router.route(0), -1);
            due.picture("only its pins are left", router, 4, 3,
                    "0... .... ....", ".... .... .#..", ".... ...0 ....");
            due.is("still none", router.route(0), -1);
            router.block(0, 0, 1);
            due.is("a step is free again", router.route(0), 6);
        }
    }

    private static void noWayThroughWires() {
        GridRouter router = new GridRouter(1, 1, 0, 0);
        router.net(0, 0, 0, 0, 2, 2);
        router.net(1, 2, 0, 1, 0, 2);
        router.paint(0, 1, 0, 1);
        router.paint(0, 0, 1, 1);
        router.paint(1, 0, 0, 1);
        router.stitch(2, 0);
        due.is("a pin closed in by a wire", router.route(0), -1);
        due.picture("the wire stays, its via too", router, 3, 3, "01. 1.1 ..#", "1.. ... ...", "..0 1.. ...");
        router.paint(1, 0, 0, 0);
        due.is("its own cells are gone first, and free then", router.route(0), 6);
    }

    /** Spacing 2: what lies beside another's pin is barred, so pins alone can shut a net in. */
    private static void noWayBesidePins() {
        for (int far = 0; far < 2; far++) {
            GridRouter router = new GridRouter(2, 0, 0, far);
            router.net(0, 0, 0, 1, 3, 1);
            router.net(0, 2, 0, 1, 2, 0);
            due.is("past pins, spacing " + (far + 1), router.route(0), far == 0 ? 5 : -1);
        }
    }

    private static void spacingOneAndTwo() {
        for (int far = 0; far < 2; far++) {
            GridRouter router = new GridRouter(2, 2, 3, far);
            router.net(0, 0, 1, 0, 3, 1);
            router.net(1, 0, 3, 1, 3, 3);
            router.paint(0, 1, 0, 1);
            due.is("past a wire, spacing " + (far + 1), router.route(0), far == 0 ? 3 : 5);
            due.is("beside the wire", router.cell(0, 1, 1), far == 0 ? 0 : -1);
            router.paint(0, 1, 0, -1);
            router.paint(1, 1, 1, 1);
            due.is("an opposite wire is never too near, spacing " + (far + 1), router.route(0), 3);
        }
    }

    /** Each pin alone and both, none's, another's, with a way and without one. */
    private static void takesPaintedPinsBack() {
        for (int first = -1; first < 2; first++) {
            for (int second = -1; second < 2; second++) {
                GridRouter router = new GridRouter(1, 0, 0, 0);
                router.net(0, 0, 0, 0, 2, 0);
                router.net(1, 0, 1, 1, 2, 1);
                router.paint(0, 0, 0, first);
                router.paint(0, 2, 0, second);
                due.is("pins painted " + Edges.told(first, second), router.route(0), 2);
                due.picture("all are its cells", router, 3, 2, "000 ... ...", "... 1.1 ...");
                for (int layer = 0; layer < 2; layer++) {
                    router.block(layer, 1, 0);
                    router.block(layer, 1, 1);
                }
                router.paint(0, 0, 0, first);
                router.paint(0, 2, 0, second);
                due.is("no way, pins painted " + Edges.told(first, second), router.route(0), -1);
                due.picture("its pins are left", router, 3, 2, "0.0 ... ...", "... 1.1 ...");
            }
        }
    }

    private static GridRouter used() {
        GridRouter router = new GridRouter(1, 0, 3, 0);
        router.net(0, 0, 0, 0, 2, 0);
        router.net(1, 0, 1, 1, 2, 1);
        router.route(0);
        router.block(0, 1, 1);
        router.stitch(2, 1);
        router.paint(0, 2, 0, -1);
        return router;
    }

    /** "IndexOutOfBoundsException if there is no such net". */
    private static void refusesWhatIsNoNet() {
        for (int net : Edges.beyond(2)) {
            due.refuses("route(" + net + ")", IndexOutOfBoundsException.class, RouteTest::used,
                    router -> router.route(net));
        }
        for (int net : Edges.beyond(0)) {
            due.refuses("route(" + net + ") without nets", IndexOutOfBoundsException.class,
                    () -> new GridRouter(0, 0, 0, 0), router -> router.route(net));
        }
        due.refuses("route(6) of six", IndexOutOfBoundsException.class, Edges::sixNets, router -> router.route(6));
    }
}
