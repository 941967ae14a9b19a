/** Promises 8 and 10: paint, and cell, which tells what was painted. */
public final class PaintTest {
    private static final Due due = new Due();

    public static void main(String[] args) {
        paintsAnything();
        tellsEachCell();
        paintsNone();
        paintsEachNumber();
        changesItsCellAlone();
        refusesWhatIsNoCell();
        refusesWhatIsNoNet();
        tellsNone();
        tellsNoCellThatIsNotThere();
        due.end();
    }

    private static void paintsAnything() {
        GridRouter router = new GridRouter(1, 0, 0, 1);
        router.net(0, 0, 0, 1, 2, 1);
        router.net(0, 2, 0, 0, 2, 1);
        router.block(1, 1, 0);
        router.stitch(1, 0);
        router.paint(1, 1, 0, 1);
        router.paint(0, 0, 0, 1);
        router.paint(0, 2, 0, 0);
        router.paint(1, 2, 1, -1);
        due.picture("blocks, pins and crowds are no hindrance", router, 3, 2,
                "1.0 .1. .#.", "..1 ... ...");
        router.paint(0, 0, 0, 0);
        router.paint(1, 1, 0, -1);
        router.paint(1, 1, 0, -1);
        due.picture("painted again", router, 3, 2, "0.0 ... .#.", "..1 ... ...");
        due.is("the block is still there", router.block(1, 1, 0), false);
    }

    private static void tellsEachCell() {
        GridRouter router = new GridRouter(7, 7, 0, 0);
        for (int net = 0; net < 5; net++) {
            router.net(0, net, 0, 1, net, 0);
        }
        for (int layer = 0; layer < 2; layer++) {
            for (int y = 0; y < 9; y++) {
                for (int x = 0; x < 9; x++) {
                    router.paint(layer, x, y, (layer * 3 + y * 2 + x) % 6 - 1);
                }
            }
        }
        for (int layer = 0; layer < 2; layer++) {
            for (int y = 0; y < 9; y++) {
                for (int x = 0; x < 9; x++) {
                    due.is("cell(" + layer + ", " + x + ", " + y + ")", router.cell(layer, x, y),
                            (layer * 3 + y * 2 + x) % 6 - 1);
                }
            }
        }
    }

    /** "or (-1) none's": a wire's cell, a pin, a cell that is none's already, one without any nets. */
    private static void paintsNone() {
        GridRouter router = new GridRouter(1, 0, 3, 0);
        router.paint(1, 2, 1, -1);
        due.is("none's cell, without nets", router.cell(1, 2, 1), -1);
        router.net(0, 0, 0, 0, 2, 0);
        router.route(0);
        router.paint(0, 1, 0, -1);
        due.is("a wire's cell", router.cell(0, 1, 0), -1);
        router.paint(0, 1, 0, -1);
        due.is("a cell that is none's already", router.cell(0, 1, 0), -1);
        router.paint(0, 0, 0, -1);
        router.paint(0, 2, 0, -1);
        due.picture("pins, too", router, 3, 2, "... ... ...", "... ... ...");
        due.fails("a pin that is none's is a pin yet", IllegalStateException.class, () -> router.block(0, 0, 0));
    }

    private static void paintsEachNumber() {
        GridRouter router = Edges.sixNets();
        for (int net = 5; net >= -1; net--) {
            router.paint(1, 5, 1, net);
            due.is("cell painted " + net, router.cell(1, 5, 1), net);
            router.paint(0, 0, 0, net);
            due.is("pin painted " + net, router.cell(0, 0, 0), net);
            router.paint(1, 0, 0, net);
            due.is("block painted " + net, router.cell(1, 0, 0), net);
        }
    }

    private static void changesItsCellAlone() {
        int[][] corners = {{0, 0, 0}, {0, 2, 0}, {0, 0, 1}, {0, 2, 1}, {1, 0, 0}, {1, 2, 0}, {1, 0, 1}, {1, 2, 1}};
        for (int[] at : corners) {
            GridRouter router = new GridRouter(1, 0, 0, 1);
            router.net(0, 1, 0, 1, 1, 0);
            router.stitch(at[1], at[2]);
            router.paint(at[0], at[1], at[2], 0);
            due.is("cell" + Edges.told(at), router.cell(at[0], at[1], at[2]), 0);
            due.is("three rows, or one with a pin", router.shapes(), at[2] == 0 ? 2 : 3);
            due.is("a via stays", router.via(at[1], at[2]), true);
            router.paint(at[0], at[1], at[2], -1);
            due.is("cell is none's again" + Edges.told(at), router.cell(at[0], at[1], at[2]), -1);
            due.is("pins alone", router.shapes(), 2);
            due.is("the via stays, too", router.via(at[1], at[2]), true);
        }
    }

    private static GridRouter used() {
        GridRouter router = new GridRouter(1, 0, 0, 0);
        router.net(0, 0, 0, 1, 2, 1);
        router.net(0, 2, 0, 1, 0, 1);
        router.paint(0, 1, 1, 1);
        router.block(1, 1, 0);
        router.stitch(1, 1);
        return router;
    }

    /** "IndexOutOfBoundsException if there is no such cell". */
    private static void refusesWhatIsNoCell() {
        for (int[] at : Edges.noCells(3, 2)) {
            due.refuses("paint a net" + Edges.told(at), IndexOutOfBoundsException.class, PaintTest::used,
                    router -> router.paint(at[0], at[1], at[2], 0));
            due.refuses("paint none" + Edges.told(at), IndexOutOfBoundsException.class, PaintTest::used,
                    router -> router.paint(at[0], at[1], at[2], -1));
            due.refuses("paint no net" + Edges.told(at), IndexOutOfBoundsException.class, PaintTest::used,
                    router -> router.paint(at[0], at[1], at[2], 2));
        }
    }

    /** "or net": below -1, and what no net has. */
    private static void refusesWhatIsNoNet() {
        for (int net : new int[] {-2, -3, 2, 3, 6, Integer.MIN_VALUE, Integer.MAX_VALUE}) {
            due.refuses("paint with " + net, IndexOutOfBoundsException.class, PaintTest::used,
                    router -> router.paint(0, 1, 1, net));
        }
        for (int net : new int[] {-2, 0, 1, Integer.MIN_VALUE, Integer.MAX_VALUE}) {
            due.refuses("paint with " + net + " without nets", IndexOutOfBoundsException.class,
                    () -> new GridRouter(0, 0, 0, 0), router -> router.paint(0, 0, 0, net));
        }
        due.refuses("paint with 6 of six", IndexOutOfBoundsException.class, Edges::sixNets,
                router -> router.paint(1, 1, 1, 6));
    }

    /** Promise 10: "-1 if it is none's": blocked, under a via, painted so, ripped, or never anybody's. */
    private static void tellsNone() {
        GridRouter router = used();
        due.is("a block", router.cell(1, 1, 0), -1);
        due.is("a cell with a via", router.cell(1, 1, 1), -1);
        due.is("a cell that was never anybody's", router.cell(0, 1, 0), -1);
        router.rip(1);
        due.is("a cell that was ripped", router.cell(0, 1, 1), -1);
        router.paint(0, 0, 0, -1);
        due.is("a pin that was painted so", router.cell(0, 0, 0), -1);
        due.is("another pin of that net", router.cell(1, 2, 1), 0);
    }

    /** Promise 10: "IndexOutOfBoundsException if there is no such cell". */
    private static void tellsNoCellThatIsNotThere() {
        for (int[] at : Edges.noCells(3, 2)) {
            due.refuses("cell" + Edges.told(at), IndexOutOfBoundsException.class, PaintTest::used,
                    router -> router.cell(at[0], at[1], at[2]));
        }
        for (int[] at : Edges.noCells(9, 9)) {
            GridRouter large = new GridRouter(7, 7, 0, 0);
            due.fails("cell of the largest grid" + Edges.told(at), IndexOutOfBoundsException.class,
                    () -> large.cell(at[0], at[1], at[2]));
        }
    }
}
