/** Promises 8 and 10: paint, and cell, which tells what was painted. */
public final class PaintTest {
    private static final Due due = new Due();
    private static final int[][] OUTSIDE = {{-1, 0, 0}, {2, 0, 0}, {0, -1, 0}, {0, 3, 0}, {0, 0, -1}, {0, 0, 2},
        {Integer.MAX_VALUE, 1, 1}, {0, Integer.MAX_VALUE, 0}, {1, 0, Integer.MIN_VALUE}, {1, 0, Integer.MAX_VALUE}};

    public static void main(String[] args) {
        paintsAnything();
        tellsEachCell();
        refuses();
        due.end();
    }

    private static void paintsAnything() {
        GridRouter router = new GridRouter(1, 0, 0, 1);
        router.net(0, 0, 0, 1, 2, 1);
        router.net(0, 2, 0, 0, 2, 1);
        router.block(1, 1, 0);
        router.stitch(1, 0);
        router.paint(1, 1, 0, 1);
        router.paint(0, 0, 0, 1);
        router.paint(0, 2, 0, 0);
        router.paint(1, 2, 1, -1);
        due.picture("blocks, pins and crowds are no hindrance", router, 3, 2,
                "1.0 .1. .#.", "..1 ... ...");
        router.paint(0, 0, 0, 0);
        router.paint(1, 1, 0, -1);
        router.paint(1, 1, 0, -1);
        due.picture("painted again", router, 3, 2, "0.0 ... .#.", "..1 ... ...");
        due.is("the block is still there", router.block(1, 1, 0), false);
    }

    private static void tellsEachCell() {
        GridRouter router = new GridRouter(7, 7, 0, 0);
        for (int net = 0; net < 5; net++) {
            router.net(0, net, 0, 1, net, 0);
        }
        for (int layer = 0; layer < 2; layer++) {
            for (int y = 0; y < 9; y++) {
                for (int x = 0; x < 9; x++) {
                    router.paint(layer, x, y, (layer * 3 + y * 2 + x) % 6 - 1);
                }
            }
        }
        for (int layer = 0; layer < 2; layer++) {
            for (int y = 0; y < 9; y++) {
                for (int x = 0; x < 9; x++) {
                    due.is("cell(" + layer + ", " + x + ", " + y + ")", router.cell(layer, x, y),
                            (layer * 3 + y * 2 + x) % 6 - 1);
                }
            }
        }
    }

    private static void refuses() {
        GridRouter router = new GridRouter(1, 0, 0, 0);
        due.fails("paint with no nets", IndexOutOfBoundsException.class, () -> router.paint(0, 0, 0, 0));
        router.paint(0, 0, 0, -1);
        router.net(0, 0, 0, 1, 2, 1);
        for (int net : new int[] {-2, 1, 6, Integer.MAX_VALUE, Integer.MIN_VALUE}) {
            due.fails("paint with net " + net, IndexOutOfBoundsException.class, () -> router.paint(0, 1, 0, net));
        }
        for (int[] at : OUTSIDE) {
            due.fails("paint outside", IndexOutOfBoundsException.class,
                    () -> router.paint(at[0], at[1], at[2], 0));
            due.fails("paint none outside", IndexOutOfBoundsException.class,
                    () -> router.paint(at[0], at[1], at[2], -1));
            due.fails("cell outside", IndexOutOfBoundsException.class, () -> router.cell(at[0], at[1], at[2]));
        }
        due.picture("nothing has changed", router, 3, 2, "0.. ... ...", "... ..0 ...");
    }
}
