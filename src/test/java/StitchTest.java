/** Promises 9 and 11: stitch, and via, which tells what was stitched. */
public final class StitchTest {
    private static final Due due = new Due();

    public static void main(String[] args) {
        toggles();
        tellsEachPlace();
        stitchesEachPlaceTwice();
        keepsTheCells();
        refusesWhatIsNoPlace();
        due.end();
    }

    private static void toggles() {
        GridRouter router = new GridRouter(1, 0, 0, 0);
        due.is("via before", router.via(2, 1), false);
        due.is("stitch", router.stitch(2, 1), true);
        due.is("via", router.via(2, 1), true);
        due.is("via beside", router.via(1, 1), false);
        due.is("stitch again", router.stitch(2, 1), false);
        due.is("via after", router.via(2, 1), false);
        due.is("stitch a third time", router.stitch(2, 1), true);
        router.block(0, 0, 0);
        due.is("stitch a block", router.stitch(0, 0), true);
        router.net(0, 1, 0, 1, 1, 0);
        due.is("route with a via", router.route(0), 1);
        due.is("a laid via is there", router.via(1, 0), true);
        due.is("stitch takes it away", router.stitch(1, 0), false);
        due.is("the pins are not joined then", router.faults(3), 1);
        due.is("stitch brings it back", router.stitch(1, 0), true);
        due.is("the pins are joined then", router.faults(3), 0);
    }

    private static void tellsEachPlace() {
        GridRouter router = new GridRouter(7, 6, 0, 0);
        for (int y = 0; y < 8; y++) {
            for (int x = 0; x < 9; x++) {
                if ((x + y * 2) % 5 < 2) {
                    router.stitch(x, y);
                }
            }
        }
        for (int y = 0; y < 8; y++) {
            for (int x = 0; x < 9; x++) {
                due.is("via(" + x + ", " + y + ")", router.via(x, y), (x + y * 2) % 5 < 2);
            }
        }
    }

    /** "There is a via, or (if there was one) none: whether there is one then." */
    private static void stitchesEachPlaceTwice() {
        GridRouter router = new GridRouter(2, 1, 0, 1);
        for (int y = 0; y < 3; y++) {
            for (int x = 0; x < 4; x++) {
                due.is("stitch" + Edges.told(x, y), router.stitch(x, y), true);
            }
        }
        due.picture("all vias", router, 4, 3, ".... .... ####", ".... .... ####", ".... .... ####");
        for (int y = 0; y < 3; y++) {
            for (int x = 0; x < 4; x++) {
                due.is("stitch again" + Edges.told(x, y), router.stitch(x, y), false);
            }
        }
        due.picture("no vias", router, 4, 3, ".... .... ....", ".... .... ....", ".... .... ....");
    }

    private static GridRouter used() {
        GridRouter router = new GridRouter(1, 0, 0, 0);
        router.net(0, 0, 0, 1, 2, 1);
        router.route(0);
        router.block(0, 1, 1);
        router.stitch(2, 0);
        return router;
    }

    private static void keepsTheCells() {
        GridRouter router = used();
        String state = State.of(router);
        for (int time = 0; time < 2; time++) {
            for (int y = 0; y < 2; y++) {
                for (int x = 0; x < 3; x++) {
                    router.stitch(x, y);
                }
            }
        }
        due.is("stitched twice, all is as before", State.of(router), state);
    }

    /** "IndexOutOfBoundsException if there is no such place", for promises 9 and 11. */
    private static void refusesWhatIsNoPlace() {
        for (int[] at : Edges.noPlaces(3, 2)) {
            due.refuses("stitch" + Edges.told(at), IndexOutOfBoundsException.class, StitchTest::used,
                    router -> router.stitch(at[0], at[1]));
            due.refuses("via" + Edges.told(at), IndexOutOfBoundsException.class, StitchTest::used,
                    router -> router.via(at[0], at[1]));
        }
        GridRouter large = new GridRouter(7, 7, 0, 0);
        for (int[] at : Edges.noPlaces(9, 9)) {
            due.fails("stitch in the largest grid" + Edges.told(at), IndexOutOfBoundsException.class,
                    () -> large.stitch(at[0], at[1]));
            due.fails("via in the largest grid" + Edges.told(at), IndexOutOfBoundsException.class,
                    () -> large.via(at[0], at[1]));
        }
        due.is("nothing was stitched", large.faults(2), 0);
    }
}
