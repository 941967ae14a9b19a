/** Promise 2: block. */
public final class BlockTest {
    private static final Due due = new Due();

    public static void main(String[] args) {
        blocks();
        blocksEachCell();
        freesWhatIsBlocked();
        keepsTheLayout();
        refusesWhatIsNoCell();
        refusesPins();
        due.end();
    }

    /** "A cell is blocked". */
    private static void blocks() {
        GridRouter router = new GridRouter(1, 0, 0, 0);
        router.net(0, 0, 0, 1, 1, 1);
        due.is("block", router.block(0, 1, 0), true);
        due.is("block the opposite", router.block(1, 1, 0), true);
        due.is("route past the blocks", router.route(0), 3);
        due.picture("the way keeps off the blocks", router, 3, 2,
                "0.. 0.. #..",
                "... 00. ...");
        due.is("block the way", router.block(1, 0, 1), true);
        due.is("route past one more", router.route(0), 3);
        due.picture("the way keeps off all blocks", router, 3, 2,
                "0.. ... ...",
                "00. .0. .#.");
    }

    private static void blocksEachCell() {
        GridRouter router = new GridRouter(2, 1, 0, 1);
        for (int layer = 0; layer < 2; layer++) {
            for (int y = 0; y < 3; y++) {
                for (int x = 0; x < 4; x++) {
                    due.is("block" + Edges.told(layer, x, y), router.block(layer, x, y), true);
                }
            }
        }
        for (int layer = 0; layer < 2; layer++) {
            for (int y = 0; y < 3; y++) {
                for (int x = 0; x < 4; x++) {
                    due.is("block again" + Edges.told(layer, x, y), router.block(layer, x, y), false);
                }
            }
        }
    }

    /** "or (if it is so already) free of that: whether it is blocked then". */
    private static void freesWhatIsBlocked() {
        GridRouter router = new GridRouter(1, 0, 3, 0);
        router.net(0, 0, 0, 0, 2, 0);
        due.is("block", router.block(0, 1, 0), true);
        due.is("round the block", router.route(0), 4);
        due.is("block again", router.block(0, 1, 0), false);
        due.is("over what is free of that", router.route(0), 2);
        due.is("block a third time", router.block(0, 1, 0), true);
        due.is("round the block once more", router.route(0), 4);
        due.is("block a fourth time", router.block(0, 1, 0), false);
        due.is("a pin where a block was", router.net(0, 1, 0, 1, 1, 0), 1);
    }

    private static void keepsTheLayout() {
        GridRouter router = new GridRouter(1, 0, 3, 0);
        router.net(0, 0, 0, 0, 2, 0);
        router.route(0);
        router.stitch(1, 0);
        due.is("block a wire's cell", router.block(0, 1, 0), true);
        due.picture("the cell is still the net's, the via still there", router, 3, 2,
                "000 ... .#.", "... ... ...");
        due.is("the pins are still joined", router.faults(3), 0);
        due.is("it is a fault", router.faults(0), 1);
        due.is("block it again", router.block(0, 1, 0), false);
        due.picture("the layout is the same", router, 3, 2, "000 ... .#.", "... ... ...");
    }

    /** Pins at two corners, a block, a via and a painted cell: what a refused call could change. */
    private static GridRouter used() {
        GridRouter router = new GridRouter(1, 0, 0, 0);
        router.net(0, 0, 0, 1, 2, 1);
        router.block(1, 0, 0);
        router.stitch(1, 1);
        router.paint(0, 2, 1, 0);
        return router;
    }

    /** "IndexOutOfBoundsException if there is none such". */
    private static void refusesWhatIsNoCell() {
        for (int[] at : Edges.noCells(3, 2)) {
            due.refuses("block" + Edges.told(at), IndexOutOfBoundsException.class, BlockTest::used,
                    router -> router.block(at[0], at[1], at[2]));
        }
    }

    /** "IllegalStateException if it is a pin". */
    private static void refusesPins() {
        due.refuses("block a first pin", IllegalStateException.class, BlockTest::used,
                router -> router.block(0, 0, 0));
        due.refuses("block a second pin", IllegalStateException.class, BlockTest::used,
                router -> router.block(1, 2, 1));
        due.refuses("block a pin that none has", IllegalStateException.class, () -> painted(-1),
                router -> router.block(0, 0, 0));
        due.refuses("block a pin that another net has", IllegalStateException.class, () -> painted(1),
                router -> router.block(0, 0, 0));
        GridRouter router = used();
        due.is("a pin's opposite is no pin", router.block(0, 2, 1), true);
        due.is("a pin's neighbour is no pin", router.block(0, 1, 0), true);
        GridRouter spaced = new GridRouter(1, 0, 0, 1);
        spaced.net(0, 0, 0, 1, 2, 1);
        due.is("nor is it with spacing 2", spaced.block(0, 1, 0), true);
    }

    private static GridRouter painted(int net) {
        GridRouter router = used();
        router.net(0, 1, 0, 0, 1, 1);
        router.paint(0, 0, 0, net);
        return router;
    }
}
