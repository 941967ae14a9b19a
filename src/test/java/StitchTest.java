/** Promises 9 and 11: stitch, and via, which tells what was stitched. */
public final class StitchTest {
    private static final Due due = new Due();

    public static void main(String[] args) {
        toggles();
        tellsEachPlace();
        refuses();
        due.end();
    }

    private static void toggles() {
        GridRouter router = new GridRouter(1, 0, 0, 0);
        due.is("via before", router.via(2, 1), false);
        due.is("stitch", router.stitch(2, 1), true);
        due.is("via", router.via(2, 1), true);
        due.is("via beside", router.via(1, 1), false);
        due.is("stitch again", router.stitch(2, 1), false);
        due.is("via after", router.via(2, 1), false);
        due.is("stitch a third time", router.stitch(2, 1), true);
        router.block(0, 0, 0);
        due.is("stitch a block", router.stitch(0, 0), true);
        router.net(0, 1, 0, 1, 1, 0);
        due.is("route with a via", router.route(0), 1);
        due.is("a laid via is there", router.via(1, 0), true);
        due.is("stitch takes it away", router.stitch(1, 0), false);
        due.is("the pins are not joined then", router.faults(3), 1);
        due.is("stitch brings it back", router.stitch(1, 0), true);
        due.is("the pins are joined then", router.faults(3), 0);
    }

    private static void tellsEachPlace() {
        GridRouter router = new GridRouter(7, 6, 0, 0);
        for (int y = 0; y < 8; y++) {
            for (int x = 0; x < 9; x++) {
                if ((x + y * 2) % 5 < 2) {
                    router.stitch(x, y);
                }
            }
        }
        for (int y = 0; y < 8; y++) {
            for (int x = 0; x < 9; x++) {
                due.is("via(" + x + ", " + y + ")", router.via(x, y), (x + y * 2) % 5 < 2);
            }
        }
    }

    private static void refuses() {
        GridRouter router = new GridRouter(1, 0, 0, 0);
        int[][] outside = {{-1, 0}, {3, 0}, {0, -1}, {0, 2}, {Integer.MAX_VALUE, 0}, {0, Integer.MIN_VALUE}};
        for (int[] at : outside) {
            due.fails("stitch outside", IndexOutOfBoundsException.class, () -> router.stitch(at[0], at[1]));
            due.fails("via outside", IndexOutOfBoundsException.class, () -> router.via(at[0], at[1]));
        }
        due.is("nothing was stitched", router.faults(2), 0);
    }
}
