/** Promise 3: net. */
public final class NetTest {
    private static final Due due = new Due();

    public static void main(String[] args) {
        numbers();
        pinsBecomeItsCells();
        refusesCells();
        refusesPins();
        refusesNeighboursOfPins();
        refusesTheSeventh();
        due.end();
    }

    private static void numbers() {
        GridRouter router = new GridRouter(4, 0, 0, 0);
        for (int net = 0; net < 6; net++) {
            due.is("net", router.net(0, net, 0, 1, net, 1), net);
        }
        due.picture("all pins", router, 6, 2, "012345 ...... ......", "...... 012345 ......");
    }

    private static void pinsBecomeItsCells() {
        GridRouter router = new GridRouter(2, 0, 0, 0);
        router.net(0, 0, 0, 0, 3, 0);
        router.route(0);
        router.stitch(1, 0);
        due.is("net on another's wire", router.net(0, 1, 0, 0, 2, 0), 1);
        due.picture("pins on another's wire", router, 4, 2, "0110 .... .#..", ".... .... ....");
        due.is("the other net is cut", router.faults(3), 1);
        due.is("pins side by side are joined", router.faults(0), 0);
    }

    private static void refusesCells() {
        GridRouter router = new GridRouter(1, 0, 0, 0);
        int[][] outside = {{-1, 0, 0}, {2, 0, 0}, {0, -1, 0}, {0, 3, 0}, {0, 0, -1}, {0, 0, 2}};
        for (int[] at : outside) {
            due.fails("net from outside", IndexOutOfBoundsException.class,
                    () -> router.net(at[0], at[1], at[2], 1, 1, 1));
            due.fails("net to outside", IndexOutOfBoundsException.class,
                    () -> router.net(1, 1, 1, at[0], at[1], at[2]));
            due.fails("net from and to one place outside", IndexOutOfBoundsException.class,
                    () -> router.net(at[0], at[1], at[2], at[0], at[1], at[2]));
        }
        router.block(0, 1, 0);
        due.fails("net from a block", IllegalArgumentException.class, () -> router.net(0, 1, 0, 0, 2, 0));
        due.fails("net to a block", IllegalArgumentException.class, () -> router.net(0, 2, 0, 0, 1, 0));
        due.fails("net from a block to outside", IndexOutOfBoundsException.class,
                () -> router.net(0, 1, 0, 0, 3, 0));
        due.fails("net of one cell", IllegalArgumentException.class, () -> router.net(1, 1, 1, 1, 1, 1));
        due.picture("nothing has changed", router, 3, 2, "... ... ...", "... ... ...");
        due.is("a block is no pin when it is gone", router.block(0, 1, 0), false);
        due.is("net where the block was", router.net(0, 1, 0, 1, 1, 0), 0);
    }

    private static void refusesPins() {
        GridRouter router = new GridRouter(1, 0, 0, 0);
        router.net(0, 0, 0, 1, 2, 1);
        due.fails("net from a first pin", IllegalArgumentException.class, () -> router.net(0, 0, 0, 0, 2, 1));
        due.fails("net from a second pin", IllegalArgumentException.class, () -> router.net(1, 2, 1, 0, 2, 1));
        due.fails("net to a first pin", IllegalArgumentException.class, () -> router.net(0, 2, 1, 0, 0, 0));
        due.fails("net to a second pin", IllegalArgumentException.class, () -> router.net(0, 2, 1, 1, 2, 1));
        router.paint(0, 0, 0, -1);
        due.fails("net to a pin painted over", IllegalArgumentException.class,
                () -> router.net(0, 2, 1, 0, 0, 0));
        due.is("spacing 1: net beside and under pins", router.net(0, 1, 0, 0, 2, 1), 1);
    }

    private static void refusesNeighboursOfPins() {
        GridRouter router = new GridRouter(3, 1, 0, 1);
        router.net(0, 2, 1, 1, 0, 0);
        int[][] near = {{0, 1, 1}, {0, 3, 1}, {0, 2, 0}, {0, 2, 2}, {1, 1, 0}, {1, 0, 1}};
        for (int[] at : near) {
            due.fails("spacing 2: net from a pin's neighbour", IllegalArgumentException.class,
                    () -> router.net(at[0], at[1], at[2], 1, 4, 2));
            due.fails("spacing 2: net to a pin's neighbour", IllegalArgumentException.class,
                    () -> router.net(1, 4, 2, at[0], at[1], at[2]));
        }
        due.is("opposite and corner of a pin", router.net(1, 2, 1, 0, 3, 2), 1);
        due.is("pins of one net side by side", router.net(1, 4, 2, 1, 4, 1), 2);
        GridRouter wires = new GridRouter(3, 1, 3, 1);
        wires.net(0, 0, 0, 0, 4, 0);
        wires.route(0);
        due.is("a wire's neighbour is not barred", wires.net(0, 2, 1, 0, 2, 2), 1);
    }

    private static void refusesTheSeventh() {
        GridRouter router = new GridRouter(4, 0, 0, 0);
        for (int net = 0; net < 6; net++) {
            router.net(0, net, 0, 0, net, 1);
        }
        router.block(1, 0, 0);
        due.fails("a seventh net", IllegalStateException.class, () -> router.net(1, 1, 0, 1, 2, 0));
        due.fails("a seventh net outside", IndexOutOfBoundsException.class, () -> router.net(1, 1, 0, 1, 6, 0));
        due.fails("a seventh net of one cell", IllegalArgumentException.class,
                () -> router.net(1, 1, 0, 1, 1, 0));
        due.fails("a seventh net on a block", IllegalArgumentException.class,
                () -> router.net(1, 0, 0, 1, 1, 0));
        due.fails("a seventh net on a pin", IllegalArgumentException.class, () -> router.net(1, 1, 0, 0, 5, 1));
        due.is("the refused net has no cell", router.cell(1, 1, 0), -1);
        due.fails("there is no net 6", IndexOutOfBoundsException.class, () -> router.rip(6));
    }
}
