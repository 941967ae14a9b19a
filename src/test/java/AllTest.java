/** Promise 6: all. */
public final class AllTest {
    private static final Due due = new Due();

    public static void main(String[] args) {
        beginsAnew();
        viasAtPaintedPinsGo();
        standsByNumberOrSpan();
        equalSpansStandByNumber();
        spanCountsLayers();
        nobodyIsPushedWithoutAPush();
        routesOnceMore();
        noNetsAtAll();
        oneNetAndSix();
        noPushes();
        noMorePushesThanTheyMayBe();
        equalSumsAmongOthers();
        eachDifferenceCounts();
        pushedOutStandByNumber();
        pushedOutGoToTheEnd();
        sixNetsPushEachOther();
        spacingOneAndTwo();
        takesPaintedPinsBack();
        refusesSoManyPushes();
        due.end();
    }

    private static void beginsAnew() {
        GridRouter router = new GridRouter(2, 1, 0, 0);
        router.net(0, 0, 0, 0, 3, 0);
        router.net(1, 0, 0, 1, 3, 0);
        router.paint(0, 1, 2, 0);
        router.paint(1, 1, 2, 1);
        router.paint(0, 1, 0, 1);
        router.paint(0, 0, 0, 1);
        router.paint(1, 0, 0, 0);
        router.paint(1, 3, 0, -1);
        router.stitch(1, 2);
        router.stitch(3, 0);
        router.stitch(2, 1);
        due.is("all", router.all(false, 0), 2);
        due.picture("only ways are left, and a via that was nobody's", router, 4, 3,
                "0000 1111 ....", ".... .... ..#.", ".... .... ....");
    }

    /** All have their pins back before the first one is routed, so that the vias there are theirs by then. */
    private static void viasAtPaintedPinsGo() {
        GridRouter router = new GridRouter(3, 1, 0, 0);
        router.net(0, 0, 0, 0, 4, 0);
        router.net(0, 0, 2, 0, 4, 2);
        router.paint(0, 0, 0, -1);
        router.paint(0, 4, 0, 1);
        router.paint(0, 0, 2, 0);
        router.paint(0, 4, 2, -1);
        int[][] places = {{0, 0}, {4, 0}, {0, 2}, {4, 2}};
        for (int[] at : places) {
            router.stitch(at[0], at[1]);
        }
        for (int y = 0; y < 3; y++) {
            router.block(0, 2, y);
            router.block(1, 2, y);
        }
        due.is("all, without a way for anybody", router.all(false, 20), 0);
        due.picture("pins alone are left, and no vias at them", router, 5, 3,
                "0...0 ..... .....", "..... ..... .....", "1...1 ..... .....");
    }

    private static GridRouter crossing() {
        GridRouter router = new GridRouter(3, 1, 3, 0);
        router.net(0, 0, 1, 0, 4, 1);
        router.net(0, 2, 0, 0, 2, 2);
        for (int y = 0; y < 3; y++) {
            for (int x = 0; x < 5; x++) {
                router.block(1, x, y);
            }
        }
        return router;
    }

    private static void standsByNumberOrSpan() {
        GridRouter byNumber = crossing();
        due.is("all by number", byNumber.all(false, 0), 1);
        due.picture("the first one by number has its way", byNumber, 5, 3,
                "..1.. ..... .....", "00000 ..... .....", "..1.. ..... .....");
        GridRouter bySpan = crossing();
        due.is("all by span", bySpan.all(true, 0), 1);
        due.picture("the shortest one has its way", bySpan, 5, 3,
                "..1.. ..... .....", "0.1.0 ..... .....", "..1.. ..... .....");
    }

    private static void equalSpansStandByNumber() {
        GridRouter router = new GridRouter(1, 1, 3, 0);
        router.net(0, 1, 0, 0, 1, 2);
        router.net(0, 0, 1, 0, 2, 1);
        for (int y = 0; y < 3; y++) {
            for (int x = 0; x < 3; x++) {
                router.block(1, x, y);
            }
        }
        due.is("all by equal spans", router.all(true, 0), 1);
        due.is("the first number was first", router.cell(0, 1, 1), 0);
    }

    private static void spanCountsLayers() {
        GridRouter router = new GridRouter(1, 0, 0, 0);
        router.net(0, 0, 1, 1, 1, 1);
        router.net(0, 1, 0, 0, 1, 1);
        due.is("all by span with layers", router.all(true, 0), 2);
        GridRouter layers = new GridRouter(1, 1, 3, 0);
        layers.net(1, 1, 0, 0, 1, 2);
        layers.net(0, 0, 1, 0, 2, 1);
        for (int x = 0; x < 3; x++) {
            layers.block(1, x, 1);
            layers.block(1, x, 2);
        }
        due.is("a layer counts 1", layers.all(true, 0), 1);
        due.is("so net 1 came first", layers.cell(0, 1, 1), 1);
    }

    private static void nobodyIsPushedWithoutAPush() {
        GridRouter router = new GridRouter(1, 0, 0, 0);
        router.net(0, 0, 0, 0, 0, 1);
        router.net(0, 2, 0, 0, 2, 1);
        router.net(1, 0, 0, 1, 2, 0);
        router.block(1, 1, 0);
        router.block(1, 1, 1);
        router.block(0, 1, 0);
        router.block(0, 1, 1);
        router.paint(1, 0, 0, -1);
        router.paint(1, 2, 0, 0);
        router.stitch(0, 0);
        due.is("a net that has no way at all", router.all(false, 20), 2);
        due.picture("its pins alone are left, both of them", router, 3, 2, "0.1 2.2 ...", "0.1 ... ...");
    }

    /** Whoever is not joined in the end was routed once more, and had no way. */
    private static void routesOnceMore() {
        for (int net = 0; net < 4; net++) {
            for (int pushes = 0; pushes <= 20; pushes++) {
                GridRouter router = crowd();
                int joined = router.all(pushes % 3 == 0, pushes);
                due.is("the others are not joined", router.faults(3), 4 - joined);
                router.rip(net);
                if (router.faults(3) == 4 - joined) {
                    due.is("a way for one that was not joined", router.route(net), -1);
                }
            }
        }
    }

    private static GridRouter crowd() {
        GridRouter router = new GridRouter(2, 2, 0, 1);
        router.net(0, 0, 0, 0, 3, 3);
        router.net(0, 3, 0, 0, 0, 3);
        router.net(1, 0, 0, 1, 3, 3);
        router.net(1, 3, 0, 1, 0, 3);
        return router;
    }

    private static void noNetsAtAll() {
        for (int pushes : new int[] {0, 1, 20}) {
            GridRouter router = new GridRouter(1, 0, 0, 1);
            router.block(0, 1, 1);
            router.stitch(2, 0);
            String state = State.of(router);
            due.is("all by number without nets", router.all(false, pushes), 0);
            due.is("all by sum without nets", router.all(true, pushes), 0);
            due.is("nothing has changed", State.of(router), state);
        }
    }

    private static void oneNetAndSix() {
        GridRouter one = new GridRouter(1, 0, 0, 1);
        one.net(0, 0, 0, 1, 2, 1);
        due.is("all with one net", one.all(true, 0), 1);
        GridRouter six = Edges.sixNets();
        due.is("all with six nets", six.all(false, 20), 6);
        due.is("all with six nets by sum", six.all(true, 0), 6);
        for (int layer = 0; layer < 2; layer++) {
            one.block(layer, 1, 0);
            one.block(layer, 1, 1);
        }
        due.is("all with no way for anybody", one.all(false, 20), 0);
    }

    /** "with at most so many pushes (0 .. 20)": 0. */
    private static void noPushes() {
        GridRouter router = crossing();
        due.is("all without pushes", router.all(false, 0), 1);
        due.is("net 0 came first and stays", router.cell(0, 2, 1), 0);
        due.is("all by sum without pushes", router.all(true, 0), 1);
        due.is("net 1 came first and stays", router.cell(0, 2, 1), 1);
    }

    /** "the pushes done are fewer than they may be": nets 0 and 1 push each other out in turn. */
    private static void noMorePushesThanTheyMayBe() {
        for (int pushes = 0; pushes <= 20; pushes++) {
            GridRouter router = crossing();
            due.is("all(false, " + pushes + ")", router.all(false, pushes), 1);
            due.is("who has pushed last of " + pushes, router.cell(0, 2, 1), pushes % 2);
            due.is("all(true, " + pushes + ")", router.all(true, pushes), 1);
            due.is("who has pushed last by sum of " + pushes, router.cell(0, 2, 1), 1 - pushes % 2);
        }
    }

    /** A cross of free cells on layer 0, all else blocked but for pins: one wire goes through the middle. */
    private static GridRouter oneWayThrough(int[][] nets) {
        GridRouter router = new GridRouter(3, 3, 3, 0);
        for (int[] net : nets) {
            router.net(net[0], net[1], net[2], net[3], net[4], net[5]);
        }
        for (int y = 0; y < 5; y++) {
            for (int x = 0; x < 5; x++) {
                blockIfNoPin(router, 1, x, y);
                if (x != 2 && y != 2) {
                    blockIfNoPin(router, 0, x, y);
                }
            }
        }
        return router;
    }

    private static void blockIfNoPin(GridRouter router, int layer, int x, int y) {
        try {
            router.block(layer, x, y);
        } catch (IllegalStateException e) {
            return;
        }
    }

    /** "of equal ones by number", also where a greater sum stands before, between or behind them. */
    private static void equalSumsAmongOthers() {
        int[] across = {0, 0, 2, 0, 4, 2};
        int[] down = {0, 2, 0, 0, 2, 4};
        int[] aside = {0, 4, 0, 1, 4, 0};
        int[] far = {0, 0, 0, 0, 4, 4};
        int[][][] lines = {{far, across, down, aside}, {across, far, down, aside}, {aside, across, down, far},
            {far, down, across, aside}, {down, aside, far, across}, {down, across, aside, far}};
        for (int[][] line : lines) {
            GridRouter router = oneWayThrough(line);
            int first = 0;
            while (line[first] != across && line[first] != down) {
                first++;
            }
            due.is("all by sum", router.all(true, 0), 2);
            due.is("who came first of two equal ones", router.cell(0, 2, 2), first);
        }
    }

    /** "the sum of the differences of their pins' layers, x and y": 1 more of each decides. */
    private static void eachDifferenceCounts() {
        int[] across = {0, 0, 2, 0, 3, 2};
        int[] back = {0, 3, 2, 0, 0, 2};
        int[] longer = {0, 2, 0, 0, 2, 4};
        for (int[] shorter : new int[][] {across, back}) {
            GridRouter router = oneWayThrough(new int[][] {longer, shorter});
            due.is("a row of 3 against a column of 4", router.all(true, 0), 1);
            due.is("3 comes before 4", router.cell(0, 2, 2), 1);
        }
        int[] through = {0, 0, 2, 1, 3, 2};
        int[] same = {0, 2, 4, 0, 2, 0};
        GridRouter equal = oneWayThrough(new int[][] {same, through});
        due.is("a layer and a row of 3 against a column of 4", equal.all(true, 0), 1);
        due.is("4 and 4 stand by number", equal.cell(0, 2, 2), 0);
        GridRouter wide = oneWayThrough(new int[][] {{0, 0, 2, 1, 4, 2}, same});
        due.is("a layer and a row of 4 against a column of 4", wide.all(true, 0), 1);
        due.is("4 comes before 5", wide.cell(0, 2, 2), 1);
        GridRouter below = oneWayThrough(new int[][] {{1, 0, 2, 1, 4, 2}, same});
        due.is("a row of 4 on layer 1 against a column of 4", below.all(true, 0), 1);
        due.is("4 and 4 stand by number again", below.cell(0, 2, 2), 0);
        GridRouter upside = oneWayThrough(new int[][] {{1, 4, 2, 0, 0, 2}, same});
        due.is("the layers the other way round", upside.all(true, 0), 1);
        due.is("4 comes before 5 again", upside.cell(0, 2, 2), 1);
    }

    /** Layer 0 alone; a net from the left leaves one gap, at the right end, for those from above to below. */
    private static GridRouter oneGap(int[][] nets) {
        GridRouter router = new GridRouter(7, 3, 3, 0);
        for (int[] net : nets) {
            router.net(0, net[0], net[1], 0, net[2], net[3]);
        }
        for (int y = 0; y < 5; y++) {
            for (int x = 0; x < 9; x++) {
                router.block(1, x, y);
            }
        }
        return router;
    }

    /** "those that are pushed out go to the line's end, by number", whomever the way meets first. */
    private static void pushedOutStandByNumber() {
        int[] left = {2, 0, 2, 4};
        int[] right = {5, 0, 5, 4};
        int[] across = {0, 2, 7, 2};
        int[] back = {7, 2, 0, 2};
        int[][][] some = {{left, right, across}, {right, left, across}, {left, right, back}, {right, left, back}};
        for (int[][] nets : some) {
            GridRouter router = oneGap(nets);
            due.is("two are pushed out, one finds the gap", router.all(false, 1), 2);
            due.is("the lower number does", router.cell(0, 8, 2), 0);
            due.is("net 2 has pushed", router.cell(0, 2, 2), 2);
        }
    }

    private static void pushedOutGoToTheEnd() {
        GridRouter router = oneGap(new int[][] {{3, 0, 3, 4}, {0, 2, 7, 2}, {5, 0, 5, 4}});
        due.is("net 1 pushes net 0 out, net 2 stands in the line yet", router.all(false, 1), 2);
        due.is("net 2 finds the gap before net 0", router.cell(0, 8, 2), 2);
        due.is("net 1 has pushed", router.cell(0, 3, 2), 1);
    }

    /** Five columns, and a row over them all: the row pushes five out, the first of them pushes it out. */
    private static void sixNetsPushEachOther() {
        for (int pushes = 0; pushes <= 20; pushes++) {
            GridRouter router = new GridRouter(5, 3, 3, 0);
            for (int x = 1; x < 6; x++) {
                router.net(0, x, 0, 0, x, 4);
            }
            router.net(0, 0, 2, 0, 6, 2);
            for (int y = 0; y < 5; y++) {
                for (int x = 0; x < 7; x++) {
                    router.block(1, x, y);
                }
            }
            due.is("six nets, pushes " + pushes, router.all(false, pushes), pushes % 2 == 0 ? 5 : 1);
            due.is("who is in the middle after " + pushes, router.cell(0, 3, 2), pushes % 2 == 0 ? 2 : 5);
        }
    }

    private static void spacingOneAndTwo() {
        for (int far = 0; far < 2; far++) {
            GridRouter router = new GridRouter(3, 1, 3, far);
            router.net(0, 0, 0, 0, 4, 0);
            router.net(0, 0, 2, 0, 4, 2);
            router.block(0, 2, 0);
            for (int y = 0; y < 3; y++) {
                router.block(1, 2, y);
            }
            due.is("side by side, spacing " + (far + 1), router.all(false, 0), 2 - far);
            due.is("no crowd", router.faults(1), 0);
        }
    }

    private static void takesPaintedPinsBack() {
        for (int first = -1; first < 2; first++) {
            for (int second = -1; second < 2; second++) {
                GridRouter router = new GridRouter(1, 0, 3, 0);
                router.net(0, 0, 0, 0, 2, 0);
                router.net(1, 0, 1, 1, 2, 1);
                router.paint(0, 0, 0, first);
                router.paint(0, 2, 0, second);
                router.paint(1, 0, 1, second);
                router.paint(1, 2, 1, first);
                due.is("pins painted " + Edges.told(first, second), router.all(false, 0), 2);
                due.picture("all are laid", router, 3, 2, "000 ... ...", "... 111 ...");
            }
        }
    }

    /** "IllegalArgumentException if it is not 0 .. 20". */
    private static void refusesSoManyPushes() {
        for (int pushes : Edges.beyond(21)) {
            for (int turn = 0; turn < 2; turn++) {
                boolean sorted = turn == 1;
                String call = "all(" + sorted + ", " + pushes + ")";
                due.refuses(call, IllegalArgumentException.class, AllTest::used,
                        router -> router.all(sorted, pushes));
                due.refuses(call + " without nets", IllegalArgumentException.class,
                        () -> new GridRouter(0, 0, 0, 0), router -> router.all(sorted, pushes));
            }
        }
        due.is("all(true, 0)", used().all(true, 0), 1);
        due.is("all(true, 20)", used().all(true, 20), 1);
        due.is("all(false, 0)", used().all(false, 0), 1);
        due.is("all(false, 20)", used().all(false, 20), 1);
    }

    private static GridRouter used() {
        GridRouter router = new GridRouter(0, 0, 0, 0);
        router.net(0, 0, 0, 0, 1, 1);
        router.paint(1, 1, 1, 0);
        router.paint(0, 0, 0, -1);
        router.stitch(1, 0);
        return router;
    }
}
