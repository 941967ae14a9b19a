/** Promise 3: net. */
public final class NetTest {
    private static final Due due = new Due();

    public static void main(String[] args) {
        numbers();
        pinsBecomeItsCells();
        refusesWhatIsNoCell();
        refusesTheSameCell();
        refusesBlocks();
        refusesPins();
        refusesNeighboursOfPins();
        edgesAreNoNeighbours();
        onlyPinsBar();
        takesTheSixth();
        refusesTheSeventh();
        refusedNetsHaveNoNumber();
        due.end();
    }

    /** "A new net: its number". */
    private static void numbers() {
        GridRouter router = new GridRouter(4, 0, 0, 0);
        for (int net = 0; net < 6; net++) {
            due.is("net", router.net(0, net, 0, 1, net, 1), net);
        }
        due.picture("all pins", router, 6, 2, "012345 ...... ......", "...... 012345 ......");
    }

    /** "its pins become its cells, whatever they were". */
    private static void pinsBecomeItsCells() {
        GridRouter router = new GridRouter(2, 0, 0, 0);
        router.net(0, 0, 0, 0, 3, 0);
        router.route(0);
        router.stitch(1, 0);
        due.is("net on another's wire", router.net(0, 1, 0, 0, 2, 0), 1);
        due.picture("pins on another's wire", router, 4, 2, "0110 .... .#..", ".... .... ....");
        due.is("the other net is cut, pins side by side are joined", router.faults(3), 1);
        due.is("they are no fault", router.faults(0), 0);
        router.paint(1, 3, 1, 1);
        due.is("net on a painted cell and on none's", router.net(1, 3, 1, 0, 0, 1), 2);
        due.picture("pins on a painted cell and on none's", router, 4, 2, "0110 .... .#..", "2... ...2 ....");
    }

    /** A block, a wire, a via, two nets: what a refused call could change. */
    private static GridRouter used() {
        GridRouter router = new GridRouter(2, 0, 3, 0);
        router.net(0, 0, 0, 0, 2, 0);
        router.net(1, 3, 1, 1, 2, 1);
        router.route(0);
        router.block(0, 0, 1);
        router.stitch(3, 0);
        return router;
    }

    /** "IndexOutOfBoundsException if there is no such cell". */
    private static void refusesWhatIsNoCell() {
        for (int[] at : Edges.noCells(4, 2)) {
            due.refuses("net from" + Edges.told(at), IndexOutOfBoundsException.class, NetTest::used,
                    router -> router.net(at[0], at[1], at[2], 1, 1, 1));
            due.refuses("net to" + Edges.told(at), IndexOutOfBoundsException.class, NetTest::used,
                    router -> router.net(1, 1, 1, at[0], at[1], at[2]));
        }
        due.refuses("net from and to one cell that is not there", IndexOutOfBoundsException.class, NetTest::used,
                router -> router.net(0, 4, 0, 0, 4, 0));
        due.refuses("net from a block to no cell", IndexOutOfBoundsException.class, NetTest::used,
                router -> router.net(0, 0, 1, 0, 4, 0));
        due.refuses("net from no cell to a pin", IndexOutOfBoundsException.class, NetTest::used,
                router -> router.net(2, 0, 0, 0, 0, 0));
    }

    /** "IllegalArgumentException if both are the same". */
    private static void refusesTheSameCell() {
        due.refuses("net of one cell", IllegalArgumentException.class, NetTest::used,
                router -> router.net(1, 1, 1, 1, 1, 1));
        due.refuses("net of the first cell", IllegalArgumentException.class, () -> new GridRouter(0, 0, 0, 0),
                router -> router.net(0, 0, 0, 0, 0, 0));
        due.refuses("net of the last cell", IllegalArgumentException.class, () -> new GridRouter(0, 0, 0, 1),
                router -> router.net(1, 1, 1, 1, 1, 1));
        GridRouter router = new GridRouter(0, 0, 0, 1);
        due.is("opposites are not the same", router.net(0, 0, 0, 1, 0, 0), 0);
        due.is("cells of both layers are not the same", router.net(0, 1, 1, 1, 1, 1), 1);
    }

    /** "one is blocked". */
    private static void refusesBlocks() {
        due.refuses("net from a block", IllegalArgumentException.class, NetTest::used,
                router -> router.net(0, 0, 1, 1, 0, 0));
        due.refuses("net to a block", IllegalArgumentException.class, NetTest::used,
                router -> router.net(1, 0, 0, 0, 0, 1));
        due.refuses("net from a block to a block", IllegalArgumentException.class, NetTest::blocked,
                router -> router.net(0, 0, 1, 0, 1, 1));
        GridRouter router = blocked();
        router.block(0, 0, 1);
        due.is("net where a block was, beside one", router.net(0, 0, 1, 1, 1, 1), 2);
    }

    private static GridRouter blocked() {
        GridRouter router = used();
        router.block(0, 1, 1);
        return router;
    }

    /** "a pin already". */
    private static void refusesPins() {
        int[][] pins = {{0, 0, 0}, {0, 2, 0}, {1, 3, 1}, {1, 2, 1}};
        for (int[] pin : pins) {
            due.refuses("net from pin" + Edges.told(pin), IllegalArgumentException.class, NetTest::used,
                    router -> router.net(pin[0], pin[1], pin[2], 1, 1, 1));
            due.refuses("net to pin" + Edges.told(pin), IllegalArgumentException.class, NetTest::used,
                    router -> router.net(1, 1, 1, pin[0], pin[1], pin[2]));
        }
        due.refuses("net from a net's first pin to its second", IllegalArgumentException.class, NetTest::used,
                router -> router.net(0, 0, 0, 0, 2, 0));
        due.refuses("net to a pin that none has", IllegalArgumentException.class, () -> painted(-1),
                router -> router.net(1, 1, 1, 0, 0, 0));
        due.refuses("net from a pin that another has", IllegalArgumentException.class, () -> painted(1),
                router -> router.net(0, 0, 0, 1, 1, 1));
        due.is("spacing 1: net beside a pin and under one", used().net(0, 3, 0, 0, 3, 1), 2);
    }

    private static GridRouter painted(int net) {
        GridRouter router = used();
        router.paint(0, 0, 0, net);
        return router;
    }

    private static GridRouter spaced() {
        GridRouter router = new GridRouter(3, 1, 0, 1);
        router.net(0, 2, 1, 1, 0, 0);
        return router;
    }

    /** "or barred for a new net": with spacing 2 a neighbour of a pin. */
    private static void refusesNeighboursOfPins() {
        int[][] near = {{0, 1, 1}, {0, 3, 1}, {0, 2, 0}, {0, 2, 2}, {1, 1, 0}, {1, 0, 1}};
        for (int[] at : near) {
            due.refuses("net from a pin's neighbour" + Edges.told(at), IllegalArgumentException.class,
                    NetTest::spaced, router -> router.net(at[0], at[1], at[2], 1, 4, 2));
            due.refuses("net to a pin's neighbour" + Edges.told(at), IllegalArgumentException.class,
                    NetTest::spaced, router -> router.net(1, 4, 2, at[0], at[1], at[2]));
        }
        GridRouter router = spaced();
        router.paint(0, 2, 1, -1);
        due.fails("net beside a pin that was painted over", IllegalArgumentException.class,
                () -> router.net(0, 3, 1, 1, 4, 2));
        due.is("opposite and corner of a pin", router.net(1, 2, 1, 0, 3, 2), 1);
        due.is("pins of one net side by side", router.net(1, 4, 2, 1, 4, 1), 2);
        GridRouter near1 = new GridRouter(3, 1, 0, 0);
        near1.net(0, 2, 1, 1, 0, 0);
        due.is("spacing 1: neighbours of pins", near1.net(0, 1, 1, 1, 0, 1), 1);
    }

    /** The end of a row is no neighbour of the next row's beginning, nor one layer's of the other's. */
    private static void edgesAreNoNeighbours() {
        GridRouter router = new GridRouter(1, 1, 0, 1);
        router.net(0, 2, 0, 0, 2, 2);
        due.is("row ends", router.net(0, 0, 1, 1, 0, 0), 1);
        GridRouter back = new GridRouter(1, 1, 0, 1);
        back.net(0, 0, 1, 1, 0, 0);
        due.is("row beginnings", back.net(0, 2, 0, 0, 2, 2), 1);
    }

    private static void onlyPinsBar() {
        GridRouter router = new GridRouter(3, 1, 3, 1);
        router.net(0, 0, 0, 0, 4, 0);
        router.route(0);
        router.paint(1, 4, 2, 0);
        due.is("spacing 2: beside a wire and on one", router.net(0, 2, 1, 1, 4, 2), 1);
    }

    private static void takesTheSixth() {
        GridRouter router = new GridRouter(4, 0, 0, 0);
        for (int net = 0; net < 5; net++) {
            router.net(0, net, 0, 0, net, 1);
        }
        due.is("a sixth net", router.net(0, 5, 0, 0, 5, 1), 5);
        due.is("the sixth net is routed", router.route(5), 1);
    }

    /** "IllegalStateException if there are six". */
    private static void refusesTheSeventh() {
        due.refuses("a seventh net", IllegalStateException.class, Edges::sixNets,
                router -> router.net(1, 1, 0, 1, 2, 0));
        due.refuses("a seventh net of a cell that is not there", IndexOutOfBoundsException.class, Edges::sixNets,
                router -> router.net(1, 1, 0, 1, 6, 0));
        due.refuses("a seventh net of one cell", IllegalArgumentException.class, Edges::sixNets,
                router -> router.net(1, 1, 0, 1, 1, 0));
        due.refuses("a seventh net on a block", IllegalArgumentException.class, Edges::sixNets,
                router -> router.net(1, 0, 0, 1, 1, 0));
        due.refuses("a seventh net on a pin", IllegalArgumentException.class, Edges::sixNets,
                router -> router.net(1, 1, 0, 0, 5, 1));
        GridRouter router = Edges.sixNets();
        for (int time = 0; time < 3; time++) {
            due.fails("a seventh net time and again", IllegalStateException.class,
                    () -> router.net(1, 1, 0, 1, 2, 0));
        }
        due.fails("there is no net 6", IndexOutOfBoundsException.class, () -> router.rip(6));
    }

    private static void refusedNetsHaveNoNumber() {
        GridRouter router = used();
        due.fails("a refused net", IllegalArgumentException.class, () -> router.net(1, 1, 1, 1, 1, 1));
        due.fails("there is no net 2", IndexOutOfBoundsException.class, () -> router.route(2));
        due.is("the net after a refused one", router.net(1, 0, 0, 1, 0, 1), 2);
    }
}
