/** Promise 6: all. */
public final class AllTest {
    private static final Due due = new Due();

    public static void main(String[] args) {
        beginsAnew();
        viasAtPaintedPinsGo();
        standsByNumberOrSpan();
        equalSpansStandByNumber();
        spanCountsLayers();
        pushesAtMostSoOften();
        nobodyIsPushedWithoutAPush();
        routesOnceMore();
        refuses();
        due.end();
    }

    private static void beginsAnew() {
        GridRouter router = new GridRouter(2, 1, 0, 0);
        router.net(0, 0, 0, 0, 3, 0);
        router.net(1, 0, 0, 1, 3, 0);
        router.paint(0, 1, 2, 0);
        router.paint(1, 1, 2, 1);
        router.paint(0, 1, 0, 1);
        router.paint(0, 0, 0, 1);
        router.paint(1, 0, 0, 0);
        router.paint(1, 3, 0, -1);
        router.stitch(1, 2);
        router.stitch(3, 0);
        router.stitch(2, 1);
        due.is("all", router.all(false, 0), 2);
        due.picture("only ways are left, and a via that was nobody's", router, 4, 3,
                "0000 1111 ....", ".... .... ..#.", ".... .... ....");
    }

    /** All have their pins back before the first one is routed, so that the vias there are theirs by then. */
    private static void viasAtPaintedPinsGo() {
        GridRouter router = new GridRouter(3, 1, 0, 0);
        router.net(0, 0, 0, 0, 4, 0);
        router.net(0, 0, 2, 0, 4, 2);
        router.paint(0, 0, 0, -1);
        router.paint(0, 4, 0, 1);
        router.paint(0, 0, 2, 0);
        router.paint(0, 4, 2, -1);
        int[][] places = {{0, 0}, {4, 0}, {0, 2}, {4, 2}};
        for (int[] at : places) {
            router.stitch(at[0], at[1]);
        }
        for (int y = 0; y < 3; y++) {
            router.block(0, 2, y);
            router.block(1, 2, y);
        }
        due.is("all, without a way for anybody", router.all(false, 20), 0);
        due.picture("pins alone are left, and no vias at them", router, 5, 3,
                "0...0 ..... .....", "..... ..... .....", "1...1 ..... .....");
    }

    private static GridRouter crossing() {
        GridRouter router = new GridRouter(3, 1, 3, 0);
        router.net(0, 0, 1, 0, 4, 1);
        router.net(0, 2, 0, 0, 2, 2);
        for (int y = 0; y < 3; y++) {
            for (int x = 0; x < 5; x++) {
                router.block(1, x, y);
            }
        }
        return router;
    }

    private static void standsByNumberOrSpan() {
        GridRouter byNumber = crossing();
        due.is("all by number", byNumber.all(false, 0), 1);
        due.picture("the first one by number has its way", byNumber, 5, 3,
                "..1.. ..... .....", "00000 ..... .....", "..1.. ..... .....");
        GridRouter bySpan = crossing();
        due.is("all by span", bySpan.all(true, 0), 1);
        due.picture("the shortest one has its way", bySpan, 5, 3,
                "..1.. ..... .....", "0.1.0 ..... .....", "..1.. ..... .....");
    }

    private static void equalSpansStandByNumber() {
        GridRouter router = new GridRouter(1, 1, 3, 0);
        router.net(0, 1, 0, 0, 1, 2);
        router.net(0, 0, 1, 0, 2, 1);
        for (int y = 0; y < 3; y++) {
            for (int x = 0; x < 3; x++) {
                router.block(1, x, y);
            }
        }
        due.is("all by equal spans", router.all(true, 0), 1);
        due.is("the first number was first", router.cell(0, 1, 1), 0);
    }

    private static void spanCountsLayers() {
        GridRouter router = new GridRouter(1, 0, 0, 0);
        router.net(0, 0, 1, 1, 1, 1);
        router.net(0, 1, 0, 0, 1, 1);
        due.is("all by span with layers", router.all(true, 0), 2);
        GridRouter layers = new GridRouter(1, 1, 3, 0);
        layers.net(1, 1, 0, 0, 1, 2);
        layers.net(0, 0, 1, 0, 2, 1);
        for (int x = 0; x < 3; x++) {
            layers.block(1, x, 1);
            layers.block(1, x, 2);
        }
        due.is("a layer counts 1", layers.all(true, 0), 1);
        due.is("so net 1 came first", layers.cell(0, 1, 1), 1);
    }

    private static void pushesAtMostSoOften() {
        GridRouter router = crossing();
        due.is("one push: the last one pushes", router.all(false, 1), 1);
        due.is("net 1 crosses after a push", router.cell(0, 2, 1), 1);
        due.is("two pushes: the pushed one pushes back", router.all(false, 2), 1);
        due.is("net 0 crosses after two", router.cell(0, 2, 1), 0);
        due.is("three pushes", router.all(false, 3), 1);
        due.is("net 1 crosses after three", router.cell(0, 2, 1), 1);
        due.is("20 pushes", router.all(false, 20), 1);
        due.is("net 0 crosses after 20", router.cell(0, 2, 1), 0);
        due.is("19 pushes by span", router.all(true, 19), 1);
        due.is("net 0 crosses after 19 by span", router.cell(0, 2, 1), 0);
    }

    private static void nobodyIsPushedWithoutAPush() {
        GridRouter router = new GridRouter(1, 0, 0, 0);
        router.net(0, 0, 0, 0, 0, 1);
        router.net(0, 2, 0, 0, 2, 1);
        router.net(1, 0, 0, 1, 2, 0);
        router.block(1, 1, 0);
        router.block(1, 1, 1);
        router.block(0, 1, 0);
        router.block(0, 1, 1);
        router.paint(1, 0, 0, -1);
        router.paint(1, 2, 0, 0);
        router.stitch(0, 0);
        due.is("a net that has no way at all", router.all(false, 20), 2);
        due.picture("its pins alone are left, both of them", router, 3, 2, "0.1 2.2 ...", "0.1 ... ...");
    }

    /** Whoever is not joined in the end was routed once more, and had no way. */
    private static void routesOnceMore() {
        for (int net = 0; net < 4; net++) {
            for (int pushes = 0; pushes <= 20; pushes++) {
                GridRouter router = crowd();
                int joined = router.all(pushes % 3 == 0, pushes);
                due.is("the others are not joined", router.faults(3), 4 - joined);
                router.rip(net);
                if (router.faults(3) == 4 - joined) {
                    due.is("a way for one that was not joined", router.route(net), -1);
                }
            }
        }
    }

    private static GridRouter crowd() {
        GridRouter router = new GridRouter(2, 2, 0, 1);
        router.net(0, 0, 0, 0, 3, 3);
        router.net(0, 3, 0, 0, 0, 3);
        router.net(1, 0, 0, 1, 3, 3);
        router.net(1, 3, 0, 1, 0, 3);
        return router;
    }

    private static void refuses() {
        GridRouter router = new GridRouter(0, 0, 0, 0);
        router.net(0, 0, 0, 0, 1, 1);
        router.paint(1, 1, 1, 0);
        for (int pushes : new int[] {-1, 21, Integer.MAX_VALUE, Integer.MIN_VALUE}) {
            due.fails("all(true, " + pushes + ")", IllegalArgumentException.class,
                    () -> router.all(true, pushes));
        }
        due.picture("nothing has changed", router, 2, 2, "0. .. ..", ".0 .0 ..");
        due.is("all(true, 0)", router.all(true, 0), 1);
        due.is("all(true, 20)", router.all(true, 20), 1);
    }
}
