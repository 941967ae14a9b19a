/** Promise 1: the sizes, the via cost and the spacing come from the lowest bits. */
public final class NewObjectTest {
    private static final Due due = new Due();
    private static final int[] WILD = {Integer.MIN_VALUE, Integer.MIN_VALUE + 5, -9, -8, -3, -1, 0, 1, 2, 3,
        4, 5, 6, 7, 8, 9, 15, 16, 1000, Integer.MAX_VALUE - 1, Integer.MAX_VALUE};

    public static void main(String[] args) {
        for (int value : WILD) {
            width(value);
            height(value);
            viaCost(value);
            spacing(value);
        }
        empty();
        due.end();
    }

    private static void width(int w) {
        GridRouter router = new GridRouter(w, 3, 0, 0);
        int width = 2 + Math.floorMod(w, 8);
        due.is("cell at the last x, w " + w, router.cell(1, width - 1, 4), -1);
        due.fails("cell behind the last x, w " + w, IndexOutOfBoundsException.class,
                () -> router.cell(1, width, 4));
    }

    private static void height(int h) {
        GridRouter router = new GridRouter(3, h, 0, 0);
        int height = 2 + Math.floorMod(h, 8);
        due.is("cell at the last y, h " + h, router.cell(1, 4, height - 1), -1);
        due.fails("cell behind the last y, h " + h, IndexOutOfBoundsException.class,
                () -> router.cell(1, 4, height));
    }

    private static void viaCost(int via) {
        GridRouter router = new GridRouter(0, 0, via, 0);
        router.net(0, 0, 0, 1, 0, 0);
        due.is("cost of one via, via " + via, router.route(0), 1 + Math.floorMod(via, 4));
    }

    private static void spacing(int far) {
        GridRouter router = new GridRouter(2, 0, 0, far);
        router.net(0, 0, 0, 0, 1, 0);
        router.net(0, 3, 0, 0, 3, 1);
        router.paint(0, 2, 0, 1);
        due.is("crowded neighbours, far " + far, router.faults(1), Math.floorMod(far, 2));
    }

    private static void empty() {
        GridRouter router = new GridRouter(1, 1, 1, 1);
        due.picture("a new layout", router, 3, 3, "... ... ...", "... ... ...", "... ... ...");
        for (int kind = 0; kind < 4; kind++) {
            due.is("faults(" + kind + ") of a new object", router.faults(kind), 0);
        }
        due.is("shapes of a new object", router.shapes(), 0);
        due.is("all of a new object", router.all(true, 20), 0);
        due.fails("route of a new object", IndexOutOfBoundsException.class, () -> router.route(0));
        for (int layer = 0; layer < 2; layer++) {
            for (int y = 0; y < 3; y++) {
                for (int x = 0; x < 3; x++) {
                    due.is("block: nothing was blocked", router.block(layer, x, y), true);
                }
            }
        }
    }
}
