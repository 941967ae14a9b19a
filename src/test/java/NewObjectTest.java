/** Promise 1: the sizes, the via cost and the spacing come from the lowest bits. */
public final class NewObjectTest {
    private static final Due due = new Due();
    /** Numbers whose lowest three bits are 0: negative ones, very large ones, and their ends. */
    private static final int[] HIGHER_BITS = {0, 8, 16, 64, 1 << 20, 1 << 30, Integer.MAX_VALUE - 7,
        -8, -16, -64, -(1 << 20), -(1 << 30), Integer.MIN_VALUE, Integer.MIN_VALUE + 8};
    private static final int[] WIDTHS = {2, 3, 4, 5, 6, 7, 8, 9};
    private static final int[] VIA_COSTS = {1, 2, 3, 4, 1, 2, 3, 4};
    private static final int[] CROWDED = {0, 1, 0, 1, 0, 1, 0, 1};

    public static void main(String[] args) {
        for (int higher : HIGHER_BITS) {
            for (int lowest = 0; lowest < 8; lowest++) {
                width(higher + lowest, WIDTHS[lowest]);
                height(higher + lowest, WIDTHS[lowest]);
                viaCost(higher + lowest, VIA_COSTS[lowest]);
                spacing(higher + lowest, CROWDED[lowest]);
            }
        }
        leastAndGreatest();
        nothingIsBlocked();
        noNets();
        noVias();
        noCellIsANets();
        objectsShareNothing();
        due.end();
    }

    /** "Width 2 + the lowest three bits of w". */
    private static void width(int w, int width) {
        GridRouter router = new GridRouter(w, 3, 0, 0);
        due.is("width, w " + w, State.width(router), width);
        due.is("cell at the last x, w " + w, router.cell(1, width - 1, 4), -1);
        due.fails("cell behind the last x, w " + w, IndexOutOfBoundsException.class,
                () -> router.cell(1, width, 4));
        due.fails("via behind the last x, w " + w, IndexOutOfBoundsException.class, () -> router.via(width, 4));
    }

    /** "height 2 + the lowest three bits of h". */
    private static void height(int h, int height) {
        GridRouter router = new GridRouter(3, h, 0, 0);
        due.is("height, h " + h, State.height(router), height);
        due.is("cell at the last y, h " + h, router.cell(1, 4, height - 1), -1);
        due.fails("cell behind the last y, h " + h, IndexOutOfBoundsException.class,
                () -> router.cell(1, 4, height));
        due.fails("via behind the last y, h " + h, IndexOutOfBoundsException.class, () -> router.via(4, height));
    }

    /** "via cost 1 + the lowest two bits of via". */
    private static void viaCost(int via, int cost) {
        GridRouter router = new GridRouter(0, 0, via, 0);
        router.net(0, 0, 0, 1, 0, 0);
        due.is("cost of one via, via " + via, router.route(0), cost);
    }

    /** "spacing 2 if the lowest bit of far is 1, else 1". */
    private static void spacing(int far, int crowded) {
        GridRouter router = new GridRouter(2, 0, 0, far);
        router.net(0, 0, 0, 0, 1, 0);
        router.net(0, 3, 0, 0, 3, 1);
        router.paint(0, 2, 0, 1);
        due.is("crowded neighbours, far " + far, router.faults(1), crowded);
    }

    private static void leastAndGreatest() {
        GridRouter least = new GridRouter(Integer.MIN_VALUE, Integer.MIN_VALUE, Integer.MIN_VALUE, Integer.MIN_VALUE);
        due.is("the least numbers: width", State.width(least), 2);
        due.is("the least numbers: height", State.height(least), 2);
        GridRouter greatest = new GridRouter(Integer.MAX_VALUE, Integer.MAX_VALUE, Integer.MAX_VALUE,
                Integer.MAX_VALUE);
        due.is("the greatest numbers: the last cell", greatest.cell(1, 8, 8), -1);
        due.fails("the greatest numbers: behind the last x", IndexOutOfBoundsException.class,
                () -> greatest.cell(1, 9, 8));
        due.fails("the greatest numbers: behind the last y", IndexOutOfBoundsException.class,
                () -> greatest.cell(1, 8, 9));
        greatest.net(0, 8, 8, 1, 8, 8);
        due.is("the greatest numbers: a via", greatest.route(0), 4);
        due.fails("the greatest numbers: spacing 2", IllegalArgumentException.class,
                () -> greatest.net(0, 7, 8, 0, 0, 0));
    }

    /** "Nothing is blocked". */
    private static void nothingIsBlocked() {
        for (int far = 0; far < 2; far++) {
            GridRouter router = new GridRouter(1, 1, 1, far);
            for (int layer = 0; layer < 2; layer++) {
                for (int y = 0; y < 3; y++) {
                    for (int x = 0; x < 3; x++) {
                        due.is("block: nothing was blocked", router.block(layer, x, y), true);
                    }
                }
            }
        }
    }

    /** "no nets". */
    private static void noNets() {
        GridRouter router = new GridRouter(1, 1, 1, 1);
        due.fails("route of a new object", IndexOutOfBoundsException.class, () -> router.route(0));
        due.fails("push of a new object", IndexOutOfBoundsException.class, () -> router.push(0));
        due.fails("rip of a new object", IndexOutOfBoundsException.class, () -> router.rip(0));
        due.fails("paint of a new object", IndexOutOfBoundsException.class, () -> router.paint(0, 0, 0, 0));
        due.is("all of a new object", router.all(true, 20), 0);
        due.is("nets that are not joined", router.faults(3), 0);
        due.is("the first net of a new object", router.net(0, 0, 0, 1, 2, 2), 0);
    }

    /** "no vias". */
    private static void noVias() {
        GridRouter router = new GridRouter(7, 7, 1, 1);
        for (int y = 0; y < 9; y++) {
            for (int x = 0; x < 9; x++) {
                due.is("via" + Edges.told(x, y) + " of a new object", router.via(x, y), false);
            }
        }
        due.is("bad vias of a new object", router.faults(2), 0);
    }

    private static void noCellIsANets() {
        GridRouter router = new GridRouter(1, 1, 1, 1);
        due.picture("a new layout", router, 3, 3, "... ... ...", "... ... ...", "... ... ...");
        due.is("shapes of a new object", router.shapes(), 0);
    }

    private static void objectsShareNothing() {
        GridRouter used = new GridRouter(1, 0, 0, 0);
        used.net(0, 0, 0, 1, 2, 1);
        used.route(0);
        used.block(0, 1, 1);
        String state = State.of(used);
        GridRouter other = new GridRouter(1, 0, 0, 0);
        due.picture("a second object is new as well", other, 3, 2, "... ... ...", "... ... ...");
        due.is("a second object has no blocks", other.block(0, 1, 1), true);
        other.block(1, 1, 1);
        due.is("the first object has not changed", State.of(used), state);
    }
}
