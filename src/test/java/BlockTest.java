/** Promise 2: block. */
public final class BlockTest {
    private static final Due due = new Due();

    public static void main(String[] args) {
        toggles();
        keepsTheLayout();
        refuses();
        due.end();
    }

    private static void toggles() {
        GridRouter router = new GridRouter(1, 0, 0, 0);
        due.is("block", router.block(1, 2, 1), true);
        due.is("block again", router.block(1, 2, 1), false);
        due.is("block a third time", router.block(1, 2, 1), true);
        due.is("block the opposite", router.block(0, 2, 1), true);
        due.is("block a neighbour", router.block(1, 1, 1), true);
        router.block(1, 1, 1);
        router.net(0, 0, 0, 1, 1, 1);
        router.block(0, 1, 0);
        due.is("route along what is free again", router.route(0), 3);
        due.picture("the way keeps off the block", router, 3, 2,
                "0.. 0.. #..",
                "... 00. ...");
    }

    private static void keepsTheLayout() {
        GridRouter router = new GridRouter(1, 0, 3, 0);
        router.net(0, 0, 0, 0, 2, 0);
        router.route(0);
        due.is("block a wire's cell", router.block(0, 1, 0), true);
        due.is("the cell is still the net's", router.cell(0, 1, 0), 0);
        due.is("the pins are still joined", router.faults(3), 0);
        due.is("it is a fault", router.faults(0), 1);
    }

    private static void refuses() {
        GridRouter router = new GridRouter(1, 0, 0, 0);
        router.net(0, 0, 0, 1, 2, 1);
        int[][] outside = {{-1, 0, 0}, {2, 0, 0}, {0, -1, 0}, {0, 3, 0}, {0, 0, -1}, {0, 0, 2},
            {Integer.MAX_VALUE, 0, 0}, {0, Integer.MIN_VALUE, 0}, {1, 0, Integer.MAX_VALUE}};
        for (int[] at : outside) {
            due.fails("block outside", IndexOutOfBoundsException.class, () -> router.block(at[0], at[1], at[2]));
        }
        due.fails("block the first pin", IllegalStateException.class, () -> router.block(0, 0, 0));
        due.fails("block the second pin", IllegalStateException.class, () -> router.block(1, 2, 1));
        due.is("block a pin's opposite", router.block(1, 0, 0), true);
        router.paint(0, 0, 0, -1);
        due.fails("block a pin painted over", IllegalStateException.class, () -> router.block(0, 0, 0));
        due.is("nothing was blocked under the net", router.faults(0), 0);
        router.paint(0, 0, 1, 0);
        due.is("what is no pin can be blocked", router.block(0, 0, 1), true);
    }
}
