/** Promises 13 and 14: shapes and shape. */
public final class ShapesTest {
    private static final Due due = new Due();

    public static void main(String[] args) {
        rows();
        rowsEndAtTheEdge();
        refuses();
        due.end();
    }

    private static void shapesAre(String when, GridRouter router, int[][] want) {
        due.is(when + ": shapes", router.shapes(), want.length);
        for (int i = 0; i < want.length; i++) {
            for (int what = 0; what < 5; what++) {
                due.is(when + ": shape(" + i + ", " + what + ")", router.shape(i, what), want[i][what]);
            }
        }
    }

    private static void rows() {
        GridRouter router = new GridRouter(3, 1, 0, 0);
        shapesAre("nothing", router, new int[][] {});
        router.net(1, 2, 0, 0, 4, 2);
        router.net(0, 1, 1, 1, 1, 2);
        router.paint(0, 2, 1, 0);
        router.paint(0, 3, 1, 0);
        router.paint(0, 0, 1, 1);
        router.paint(0, 0, 2, 0);
        router.paint(0, 2, 2, 0);
        shapesAre("two nets side by side, gaps, both layers", router, new int[][] {
            {0, 1, 0, 1, 1}, {0, 1, 2, 3, 0}, {0, 2, 0, 0, 0}, {0, 2, 2, 2, 0}, {0, 2, 4, 4, 0},
            {1, 0, 2, 2, 0}, {1, 2, 1, 1, 1}});
        router.paint(0, 3, 2, 0);
        router.paint(0, 2, 1, 1);
        router.paint(1, 1, 2, -1);
        shapesAre("rows have grown together", router, new int[][] {
            {0, 1, 0, 2, 1}, {0, 1, 3, 3, 0}, {0, 2, 0, 0, 0}, {0, 2, 2, 4, 0}, {1, 0, 2, 2, 0}});
    }

    private static void rowsEndAtTheEdge() {
        GridRouter router = new GridRouter(0, 0, 0, 0);
        router.net(0, 0, 0, 1, 1, 1);
        for (int y = 0; y < 2; y++) {
            for (int x = 0; x < 2; x++) {
                router.paint(0, x, y, 0);
                router.paint(1, x, y, 0);
            }
        }
        shapesAre("all of one net", router, new int[][] {
            {0, 0, 0, 1, 0}, {0, 1, 0, 1, 0}, {1, 0, 0, 1, 0}, {1, 1, 0, 1, 0}});
    }

    private static void refuses() {
        GridRouter router = new GridRouter(0, 0, 0, 0);
        due.fails("shape(0, 0) of nothing", IndexOutOfBoundsException.class, () -> router.shape(0, 0));
        due.fails("shape(0, 5) of nothing", IndexOutOfBoundsException.class, () -> router.shape(0, 5));
        router.net(0, 0, 0, 1, 1, 1);
        for (int i : new int[] {-1, 2, Integer.MAX_VALUE, Integer.MIN_VALUE}) {
            due.fails("shape(" + i + ", 4)", IndexOutOfBoundsException.class, () -> router.shape(i, 4));
            due.fails("shape(" + i + ", -1)", IndexOutOfBoundsException.class, () -> router.shape(i, -1));
        }
        for (int what : new int[] {-1, 5, Integer.MAX_VALUE, Integer.MIN_VALUE}) {
            due.fails("shape(1, " + what + ")", IllegalArgumentException.class, () -> router.shape(1, what));
        }
    }
}
