/** Promises 13 and 14: shapes and shape. */
public final class ShapesTest {
    private static final Due due = new Due();

    public static void main(String[] args) {
        rows();
        rowsEndAtTheEdge();
        emptyLayouts();
        wholeWidth();
        shapesAtEachEnd();
        asManyAsCells();
        refusesWhatIsNoShape();
        refusesWhatIsNoWhat();
        due.end();
    }

    private static void shapesAre(String when, GridRouter router, int[][] want) {
        due.is(when + ": shapes", router.shapes(), want.length);
        for (int i = 0; i < want.length; i++) {
            for (int what = 0; what < 5; what++) {
                due.is(when + ": shape(" + i + ", " + what + ")", router.shape(i, what), want[i][what]);
            }
        }
    }

    private static void rows() {
        GridRouter router = new GridRouter(3, 1, 0, 0);
        shapesAre("nothing", router, new int[][] {});
        router.net(1, 2, 0, 0, 4, 2);
        router.net(0, 1, 1, 1, 1, 2);
        router.paint(0, 2, 1, 0);
        router.paint(0, 3, 1, 0);
        router.paint(0, 0, 1, 1);
        router.paint(0, 0, 2, 0);
        router.paint(0, 2, 2, 0);
        shapesAre("two nets side by side, gaps, both layers", router, new int[][] {
            {0, 1, 0, 1, 1}, {0, 1, 2, 3, 0}, {0, 2, 0, 0, 0}, {0, 2, 2, 2, 0}, {0, 2, 4, 4, 0},
            {1, 0, 2, 2, 0}, {1, 2, 1, 1, 1}});
        router.paint(0, 3, 2, 0);
        router.paint(0, 2, 1, 1);
        router.paint(1, 1, 2, -1);
        shapesAre("rows have grown together", router, new int[][] {
            {0, 1, 0, 2, 1}, {0, 1, 3, 3, 0}, {0, 2, 0, 0, 0}, {0, 2, 2, 4, 0}, {1, 0, 2, 2, 0}});
    }

    private static void rowsEndAtTheEdge() {
        GridRouter router = new GridRouter(0, 0, 0, 0);
        router.net(0, 0, 0, 1, 1, 1);
        for (int y = 0; y < 2; y++) {
            for (int x = 0; x < 2; x++) {
                router.paint(0, x, y, 0);
                router.paint(1, x, y, 0);
            }
        }
        shapesAre("all of one net", router, new int[][] {
            {0, 0, 0, 1, 0}, {0, 1, 0, 1, 0}, {1, 0, 0, 1, 0}, {1, 1, 0, 1, 0}});
    }

    private static void emptyLayouts() {
        shapesAre("the smallest grid", new GridRouter(0, 0, 0, 0), new int[][] {});
        shapesAre("the largest grid", new GridRouter(7, 7, 0, 1), new int[][] {});
        GridRouter router = new GridRouter(1, 0, 0, 0);
        router.block(0, 0, 0);
        router.stitch(1, 1);
        shapesAre("a block and a via are no shapes", router, new int[][] {});
        router.net(0, 1, 0, 1, 1, 0);
        router.paint(0, 1, 0, -1);
        router.paint(1, 1, 0, -1);
        shapesAre("pins that are none's are no shapes", router, new int[][] {});
    }

    /** A row over the whole width, above one that begins where it ends, and one on the other layer. */
    private static void wholeWidth() {
        GridRouter router = new GridRouter(7, 0, 0, 0);
        router.net(0, 0, 1, 1, 8, 0);
        for (int x = 0; x < 9; x++) {
            router.paint(0, x, 0, 0);
        }
        shapesAre("a whole row and the next one's beginning", router, new int[][] {
            {0, 0, 0, 8, 0}, {0, 1, 0, 0, 0}, {1, 0, 8, 8, 0}});
        for (int x = 0; x < 9; x++) {
            router.paint(0, x, 1, 0);
            router.paint(1, x, 0, 0);
        }
        shapesAre("whole rows below one another and on both layers", router, new int[][] {
            {0, 0, 0, 8, 0}, {0, 1, 0, 8, 0}, {1, 0, 0, 8, 0}});
        router.paint(0, 4, 0, -1);
        shapesAre("a gap in the middle", router, new int[][] {
            {0, 0, 0, 3, 0}, {0, 0, 5, 8, 0}, {0, 1, 0, 8, 0}, {1, 0, 0, 8, 0}});
        router.paint(0, 0, 1, -1);
        router.paint(1, 8, 0, -1);
        shapesAre("a gap at each end", router, new int[][] {
            {0, 0, 0, 3, 0}, {0, 0, 5, 8, 0}, {0, 1, 1, 8, 0}, {1, 0, 0, 7, 0}});
    }

    /** One cell at each corner of each layer, then two of them. */
    private static void shapesAtEachEnd() {
        GridRouter router = new GridRouter(2, 1, 0, 0);
        router.net(0, 0, 0, 1, 3, 2);
        router.net(0, 3, 0, 1, 0, 2);
        router.net(0, 0, 2, 1, 3, 0);
        router.net(0, 3, 2, 1, 0, 0);
        shapesAre("each corner", router, new int[][] {
            {0, 0, 0, 0, 0}, {0, 0, 3, 3, 1}, {0, 2, 0, 0, 2}, {0, 2, 3, 3, 3},
            {1, 0, 0, 0, 3}, {1, 0, 3, 3, 2}, {1, 2, 0, 0, 1}, {1, 2, 3, 3, 0}});
        router.paint(0, 1, 0, 0);
        router.paint(0, 2, 0, 1);
        router.paint(1, 1, 2, 0);
        router.paint(1, 2, 2, 0);
        shapesAre("rows from each end", router, new int[][] {
            {0, 0, 0, 1, 0}, {0, 0, 2, 3, 1}, {0, 2, 0, 0, 2}, {0, 2, 3, 3, 3},
            {1, 0, 0, 0, 3}, {1, 0, 3, 3, 2}, {1, 2, 0, 0, 1}, {1, 2, 1, 3, 0}});
    }

    private static void asManyAsCells() {
        GridRouter router = new GridRouter(7, 7, 0, 0);
        router.net(0, 0, 0, 1, 0, 0);
        router.net(0, 1, 0, 1, 1, 0);
        for (int y = 0; y < 9; y++) {
            for (int x = 0; x < 9; x++) {
                router.paint(0, x, y, x % 2);
                router.paint(1, x, y, x % 2);
            }
        }
        due.is("a shape for each cell", router.shapes(), 162);
        int[] last = {1, 8, 8, 8, 0};
        for (int what = 0; what < 5; what++) {
            due.is("the last shape's " + what, router.shape(161, what), last[what]);
        }
        due.fails("no shape behind the last", IndexOutOfBoundsException.class, () -> router.shape(162, 0));
    }

    private static GridRouter used() {
        GridRouter router = new GridRouter(1, 0, 0, 0);
        router.net(0, 0, 0, 1, 2, 1);
        router.paint(0, 1, 0, 0);
        router.block(0, 1, 1);
        router.stitch(2, 1);
        return router;
    }

    /** "IndexOutOfBoundsException if there is no such shape". */
    private static void refusesWhatIsNoShape() {
        for (int what = 0; what < 5; what++) {
            int one = what;
            for (int i : Edges.beyond(2)) {
                due.refuses("shape" + Edges.told(i, what), IndexOutOfBoundsException.class, ShapesTest::used,
                        router -> router.shape(i, one));
            }
            for (int i : Edges.beyond(0)) {
                due.refuses("shape of nothing" + Edges.told(i, what), IndexOutOfBoundsException.class,
                        () -> new GridRouter(0, 0, 0, 0), router -> router.shape(i, one));
            }
        }
        for (int what : Edges.beyond(5)) {
            due.fails("neither such a shape nor such a what", IndexOutOfBoundsException.class,
                    () -> used().shape(2, what));
        }
        due.is("the first shape is there", used().shape(0, 3), 1);
        due.is("the last shape is there", used().shape(1, 2), 2);
    }

    /** "IllegalArgumentException if there is no such what". */
    private static void refusesWhatIsNoWhat() {
        for (int what : Edges.beyond(5)) {
            due.refuses("shape" + Edges.told(0, what), IllegalArgumentException.class, ShapesTest::used,
                    router -> router.shape(0, what));
            due.refuses("shape" + Edges.told(1, what), IllegalArgumentException.class, ShapesTest::used,
                    router -> router.shape(1, what));
        }
        due.is("the least what is there", used().shape(1, 0), 1);
        due.is("the greatest what is there", used().shape(1, 4), 0);
    }
}
