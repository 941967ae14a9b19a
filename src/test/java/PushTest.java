/** Promise 5: push. */
public final class PushTest {
    private static final Due due = new Due();

    public static void main(String[] args) {
        pushesOut();
        goesRoundIfThatIsCheaper();
        pushesOutBesideItsWay();
        countsTakenPins();
        takesItsPinsBack();
        pushedOutTakeTheirPinsBack();
        stopsAtWhatIsBarred();
        refuses();
        due.end();
    }

    /** Net 1 crosses the whole of both layers between the pins of net 0. */
    private static GridRouter walled() {
        GridRouter router = new GridRouter(3, 1, 0, 0);
        router.net(0, 0, 1, 0, 4, 1);
        router.net(0, 2, 0, 1, 2, 0);
        router.net(1, 4, 0, 1, 4, 2);
        for (int y = 0; y < 3; y++) {
            router.paint(0, 2, y, 1);
            router.paint(1, 2, y, 1);
        }
        router.stitch(2, 0);
        router.stitch(2, 2);
        return router;
    }

    private static void pushesOut() {
        GridRouter router = walled();
        router.route(2);
        due.is("no way without a push", router.route(0), -1);
        due.is("push over one taken cell", router.push(0), 14);
        due.picture("net 1 is pushed out, net 2 is not", router, 5, 3,
                "..1.. ..1.2 .....", "00000 ....2 .....", "..... ....2 .....");
        due.is("push over what is free", router.push(0), 4);
        due.is("the one that is pushed out is not joined", router.faults(3), 1);
    }

    private static void goesRoundIfThatIsCheaper() {
        GridRouter router = new GridRouter(2, 7, 3, 0);
        router.net(0, 0, 0, 0, 3, 0);
        router.net(0, 1, 8, 0, 2, 8);
        for (int y = 0; y < 5; y++) {
            router.paint(0, 1, y, 1);
            router.paint(1, 1, y, 1);
        }
        due.is("10 more against 10 more: the first predecessor", router.push(0), 13);
        due.is("it went straight", router.cell(0, 1, 0), 0);
        due.is("net 1 is pushed out", router.cell(0, 1, 4), -1);
        for (int y = 0; y < 4; y++) {
            router.paint(0, 1, y, 1);
            router.paint(1, 1, y, 1);
        }
        due.is("8 more by going round", router.push(0), 11);
        due.is("net 1 is not pushed out", router.cell(0, 1, 3), 1);
    }

    private static void pushesOutBesideItsWay() {
        GridRouter router = new GridRouter(4, 3, 3, 1);
        router.net(0, 0, 2, 0, 5, 2);
        router.net(1, 0, 0, 1, 5, 0);
        router.net(1, 0, 4, 1, 5, 4);
        for (int x = 0; x < 6; x++) {
            router.paint(0, x, 1, 1);
            router.paint(1, x, 2, 2);
            router.block(0, x, 3);
        }
        router.paint(0, 0, 4, 2);
        due.is("no way beside a wire", router.route(0), -1);
        due.is("push: five cells beside a wire, the second pin among them", router.push(0), 55);
        due.picture("the wire beside the way is pushed out, not the one opposite or two away", router, 6, 5,
                "...... 1....1 ......", "...... ...... ......", "000000 222222 ......",
                "...... ...... ......", "2..... 2....2 ......");
        due.is("spacing 1: nothing is taken beside a wire", alongAWire(), 5);
    }

    private static int alongAWire() {
        GridRouter router = new GridRouter(4, 3, 3, 0);
        router.net(0, 0, 2, 0, 5, 2);
        router.net(1, 0, 0, 1, 5, 0);
        for (int x = 0; x < 6; x++) {
            router.paint(0, x, 1, 1);
        }
        int cost = router.push(0);
        due.is("spacing 1: nobody is pushed out beside the way", router.cell(0, 3, 1), 1);
        return cost;
    }

    private static void countsTakenPins() {
        GridRouter router = new GridRouter(2, 2, 3, 1);
        router.net(0, 0, 0, 0, 3, 0);
        router.net(1, 0, 3, 1, 3, 3);
        router.paint(0, 0, 1, 1);
        due.is("a first pin that is taken costs nothing", router.push(0), 3);
        due.is("but its taker is pushed out", router.cell(0, 0, 1), -1);
        router.paint(0, 3, 1, 1);
        due.is("a second pin that is taken costs 10", router.push(0), 13);
        due.is("and its taker is pushed out", router.cell(0, 3, 1), -1);
    }

    private static void takesItsPinsBack() {
        GridRouter router = new GridRouter(2, 2, 3, 0);
        router.net(0, 0, 0, 0, 3, 0);
        router.net(1, 0, 3, 1, 3, 3);
        router.net(1, 0, 1, 1, 3, 1);
        router.paint(0, 3, 0, 1);
        router.paint(0, 3, 3, 1);
        router.paint(0, 0, 0, 2);
        router.paint(0, 0, 2, 2);
        router.stitch(3, 0);
        due.is("a second pin that was painted over is not taken", router.push(0), 3);
        due.picture("those who held nothing but its pins are not pushed out", router, 4, 4,
                "0000 .... ...#", ".... 2..2 ....", "2... .... ....", "...1 1..1 ....");
        for (int y = 0; y < 4; y++) {
            router.block(0, 1, y);
            router.block(1, 1, y);
        }
        router.paint(0, 0, 0, -1);
        router.paint(0, 3, 0, 1);
        router.stitch(0, 0);
        due.is("no way for a push", router.push(0), -1);
        due.picture("its pins alone are left, both of them, and vias that were not its", router, 4, 4,
                "0..0 .... #..#", ".... 2..2 ....", "2... .... ....", "...1 1..1 ....");
        due.is("still no way for a push", router.push(0), -1);
        due.picture("the vias at its pins were its own by now", router, 4, 4,
                "0..0 .... ....", ".... 2..2 ....", "2... .... ....", "...1 1..1 ....");
    }

    private static void pushedOutTakeTheirPinsBack() {
        GridRouter router = new GridRouter(3, 2, 3, 0);
        router.net(0, 0, 0, 0, 4, 0);
        router.net(1, 0, 3, 1, 4, 3);
        router.net(1, 0, 2, 1, 4, 2);
        router.net(1, 0, 1, 1, 4, 1);
        for (int y = 0; y < 4; y++) {
            router.paint(0, 1, y, 1);
            router.paint(1, 1, y, 1);
            router.paint(0, 3, y, 2);
            router.paint(1, 3, y, 2);
        }
        router.paint(1, 0, 3, 2);
        router.paint(1, 4, 3, 3);
        router.paint(0, 4, 3, 3);
        router.paint(1, 0, 2, 1);
        router.paint(1, 4, 2, -1);
        router.paint(1, 0, 1, -1);
        for (int y = 0; y < 4; y++) {
            router.stitch(0, y);
            router.stitch(4, y);
        }
        due.is("push over two wires", router.push(0), 24);
        due.picture("both have their pins alone; net 3's vias and nobody's stay, also at such pins", router, 5, 4,
                "00000 ..... .....", "..... ....3 #...#", "..... 2...2 ....#", "....3 1...1 ....#");
    }

    private static void stopsAtWhatIsBarred() {
        GridRouter router = new GridRouter(1, 0, 0, 0);
        router.net(0, 0, 0, 0, 2, 0);
        router.net(0, 1, 0, 0, 1, 1);
        router.route(1);
        due.is("push under pins", router.push(0), 4);
        router.block(1, 1, 0);
        due.is("push under the other pin", router.push(0), 6);
        router.stitch(0, 0);
        router.paint(1, 1, 1, 1);
        due.is("push over a taken cell", router.push(0), 16);
        router.block(1, 1, 1);
        router.paint(1, 0, 1, 1);
        due.is("no way for a push", router.push(0), -1);
        due.picture("its pins alone are left, nobody is pushed out", router, 3, 2,
                "010 ... ...", ".1. 1.. ...");
        GridRouter spaced = new GridRouter(1, 0, 0, 1);
        spaced.net(0, 0, 0, 1, 0, 0);
        spaced.net(0, 2, 0, 1, 2, 1);
        due.is("spacing 2: beside another's pin is barred for a push", spaced.push(1), 2);
        spaced.block(0, 2, 1);
        due.is("spacing 2: through the opposite", spaced.push(1), 2);
        spaced.block(1, 2, 0);
        due.is("spacing 2: no way but beside pins", spaced.push(1), -1);
    }

    private static void refuses() {
        GridRouter router = new GridRouter(0, 0, 0, 0);
        router.net(0, 0, 0, 0, 1, 1);
        for (int net : new int[] {-1, 1, 6, Integer.MAX_VALUE, Integer.MIN_VALUE}) {
            due.fails("push(" + net + ")", IndexOutOfBoundsException.class, () -> router.push(net));
        }
    }
}
