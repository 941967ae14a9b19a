/** Promise 5: push. */
public final class PushTest {
    private static final Due due = new Due();

    public static void main(String[] args) {
        pushesOut();
        goesRoundIfThatIsCheaper();
        pushesOutBesideItsWay();
        countsTakenPins();
        takesItsPinsBack();
        pushedOutTakeTheirPinsBack();
        stopsAtWhatIsBarred();
        takenSecondPinBesideTheFirst();
        everyStepTaken();
        pushesOutAllOthers();
        freeWaysPushNobody();
        pushesOutOnEachSide();
        pushesOutAnew();
        noWayFromOrToAPin();
        noWayBesidePins();
        takesPaintedPinsBack();
        refusesWhatIsNoNet();
        due.end();
    }

    /** Net 1 crosses the whole of both layers between the pins of net 0. */
    private static GridRouter walled() {
        GridRouter router = new GridRouter(3, 1, 0, 0);
        router.net(0, 0, 1, 0, 4, 1);
        router.net(0, 2, 0, 1, 2, 0);
        router.net(1, 4, 0, 1, 4, 2);
        for (int y = 0; y < 3; y++) {
            router.paint(0, 2, y, 1);
            router.paint(1, 2, y, 1);
        }
        router.stitch(2, 0);
        router.stitch(2, 2);
        return router;
    }

    private static void pushesOut() {
        GridRouter router = walled();
        router.route(2);
        due.is("no way without a push", router.route(0), -1);
        due.is("push over one taken cell", router.push(0), 14);
        due.picture("net 1 is pushed out, net 2 is not", router, 5, 3,
                "..1.. ..1.2 .....", "00000 ....2 .....", "..... ....2 .....");
        due.is("push over what is free", router.push(0), 4);
        due.is("the one that is pushed out is not joined", router.faults(3), 1);
    }

    private static void goesRoundIfThatIsCheaper() {
        GridRouter router = new GridRouter(2, 7, 3, 0);
        router.net(0, 0, 0, 0, 3, 0);
        router.net(0, 1, 8, 0, 2, 8);
        for (int y = 0; y < 5; y++) {
            router.paint(0, 1, y, 1);
            router.paint(1, 1, y, 1);
        }
        due.is("10 more against 10 more: the first predecessor", router.push(0), 13);
        due.is("it went straight", router.cell(0, 1, 0), 0);
        due.is("net 1 is pushed out", router.cell(0, 1, 4), -1);
        for (int y = 0; y < 4; y++) {
            router.paint(0, 1, y, 1);
            router.paint(1, 1, y, 1);
        }
        due.is("8 more by going round", router.push(0), 11);
        due.is("net 1 is not pushed out", router.cell(0, 1, 3), 1);
    }

    private static void pushesOutBesideItsWay() {
        GridRouter router = new GridRouter(4, 3, 3, 1);
        router.net(0, 0, 2, 0, 5, 2);
        router.net(1, 0, 0, 1, 5, 0);
        router.net(1, 0, 4, 1, 5, 4);
        for (int x = 0; x < 6; x++) {
            router.paint(0, x, 1, 1);
            router.paint(1, x, 2, 2);
            router.block(0, x, 3);
        }
        router.paint(0, 0, 4, 2);
        due.is("no way beside a wire", router.route(0), -1);
        due.is("push: five cells beside a wire, the second pin among them", router.push(0), 55);
        due.picture("the wire beside the way is pushed out, not the one opposite or two away", router, 6, 5,
                "...... 1....1 ......", "...... ...... ......", "000000 222222 ......",
                "...... ...... ......", "2..... 2....2 ......");
        due.is("spacing 1: nothing is taken beside a wire", alongAWire(), 5);
    }

    private static int alongAWire() {
        GridRouter router = new GridRouter(4, 3, 3, 0);
        router.net(0, 0, 2, 0, 5, 2);
        router.net(1, 0, 0, 1, 5, 0);
        for (int x = 0; x < 6; x++) {
            router.paint(0, x, 1, 1);
        }
        int cost = router.push(0);
        due.is("spacing 1: nobody is pushed out beside the way", router.cell(0, 3, 1), 1);
        return cost;
    }

    private static void countsTakenPins() {
        GridRouter router = new GridRouter(2, 2, 3, 1);
        router.net(0, 0, 0, 0, 3, 0);
        router.net(1, 0, 3, 1, 3, 3);
        router.paint(0, 0, 1, 1);
        due.is("a first pin that is taken costs nothing", router.push(0), 3);
        due.is("but its taker is pushed out", router.cell(0, 0, 1), -1);
        router.paint(0, 3, 1, 1);
        due.is("a second pin that is taken costs 10", router.push(0), 13);
        due.is("and its taker is pushed out", router.cell(0, 3, 1), -1);
    }

    private static void takesItsPinsBack() {
        GridRouter router = new GridRouter(2, 2, 3, 0);
        router.net(0, 0, 0, 0, 3, 0);
        router.net(1, 0, 3, 1, 3, 3);
        router.net(1, 0, 1, 1, 3, 1);
        router.paint(0, 3, 0, 1);
        router.paint(0, 3, 3, 1);
        router.paint(0, 0, 0, 2);
        router.paint(0, 0, 2, 2);
        router.stitch(3, 0);
        due.is("a second pin that was painted over is not taken", router.push(0), 3);
        due.picture("those who held nothing but its pins are not pushed out", router, 4, 4,
                "0000 .... ...#", ".... 2..2 ....", "2... .... ....", "...1 1..1 ....");
        for (int y = 0; y < 4; y++) {
            router.block(0, 1, y);
            router.block(1, 1, y);
        }
        router.paint(0, 0, 0, -1);
        router.paint(0, 3, 0, 1);
        router.stitch(0, 0);
        due.is("no way for a push", router.push(0), -1);
        due.picture("its pins alone are left, both of them, and vias that were not its", router, 4, 4,
                "0..0 .... #..#", ".... 2..2 ....", "2... .... ....", "...1 1..1 ....");
        due.is("still no way for a push", router.push(0), -1);
        due.picture("the vias at its pins were its own by now", router, 4, 4,
                "0..0 .... ....", ".... 2..2 ....", "2... .... ....", "...1 1..1 ....");
    }

    private static void pushedOutTakeTheirPinsBack() {
        GridRouter router = new GridRouter(3, 2, 3, 0);
        router.net(0, 0, 0, 0, 4, 0);
        router.net(1, 0, 3, 1, 4, 3);
        router.net(1, 0, 2, 1, 4, 2);
        router.net(1, 0, 1, 1, 4, 1);
        for (int y = 0; y < 4; y++) {
            router.paint(0, 1, y, 1);
            router.paint(1, 1, y, 1);
            router.paint(0, 3, y, 2);
            router.paint(1, 3, y, 2);
        }
        router.paint(1, 0, 3, 2);
        router.paint(1, 4, 3, 3);
        router.paint(0, 4, 3, 3);
        router.paint(1, 0, 2, 1);
        router.paint(1, 4, 2, -1);
        router.paint(1, 0, 1, -1);
        for (int y = 0; y < 4; y++) {
            router.stitch(0, y);
            router.stitch(4, y);
        }
        due.is("push over two wires", router.push(0), 24);
        due.picture("both have their pins alone; net 3's vias and nobody's stay, also at such pins", router, 5, 4,
                "00000 ..... .....", "..... ....3 #...#", "..... 2...2 ....#", "....3 1...1 ....#");
    }

    private static void stopsAtWhatIsBarred() {
        GridRouter router = new GridRouter(1, 0, 0, 0);
        router.net(0, 0, 0, 0, 2, 0);
        router.net(0, 1, 0, 0, 1, 1);
        router.route(1);
        due.is("push under pins", router.push(0), 4);
        router.block(1, 1, 0);
        due.is("push under the other pin", router.push(0), 6);
        router.stitch(0, 0);
        router.paint(1, 1, 1, 1);
        due.is("push over a taken cell", router.push(0), 16);
        router.block(1, 1, 1);
        router.paint(1, 0, 1, 1);
        due.is("no way for a push", router.push(0), -1);
        due.picture("its pins alone are left, nobody is pushed out", router, 3, 2,
                "010 ... ...", ".1. 1.. ...");
        GridRouter spaced = new GridRouter(1, 0, 0, 1);
        spaced.net(0, 0, 0, 1, 0, 0);
        spaced.net(0, 2, 0, 1, 2, 1);
        due.is("spacing 2: beside another's pin is barred for a push", spaced.push(1), 2);
        spaced.block(0, 2, 1);
        due.is("spacing 2: through the opposite", spaced.push(1), 2);
        spaced.block(1, 2, 0);
        due.is("spacing 2: no way but beside pins", spaced.push(1), -1);
    }

    /** "a step to a cell that is taken (also to its second pin) costs 10 more": the shortest ways. */
    private static void takenSecondPinBesideTheFirst() {
        GridRouter beside = new GridRouter(1, 1, 3, 1);
        beside.net(0, 0, 0, 0, 0, 1);
        beside.net(1, 2, 0, 1, 2, 2);
        beside.paint(0, 0, 2, 1);
        due.is("one step to a taken pin", beside.push(0), 11);
        due.is("its taker is pushed out", beside.cell(0, 0, 2), -1);
        due.is("one step to a pin that is not taken", beside.push(0), 1);
        GridRouter opposite = new GridRouter(1, 1, 3, 1);
        opposite.net(0, 0, 0, 1, 0, 0);
        opposite.net(1, 2, 0, 1, 2, 2);
        opposite.paint(1, 1, 0, 1);
        due.is("one via to a taken pin", opposite.push(0), 14);
        opposite.paint(0, 1, 0, 1);
        due.is("one via from a taken pin", opposite.push(0), 4);
        due.is("its taker is pushed out, too", opposite.cell(0, 1, 0), -1);
        GridRouter near = new GridRouter(1, 1, 3, 0);
        near.net(0, 0, 0, 0, 0, 1);
        near.net(1, 2, 0, 1, 2, 2);
        near.paint(0, 0, 2, 1);
        due.is("spacing 1: a pin beside a wire is not taken", near.push(0), 1);
        due.is("spacing 1: the wire stays", near.cell(0, 0, 2), 1);
    }

    private static void everyStepTaken() {
        GridRouter router = new GridRouter(7, 0, 0, 0);
        router.net(0, 0, 0, 0, 8, 0);
        router.net(1, 0, 1, 1, 8, 1);
        for (int y = 0; y < 2; y++) {
            for (int x = 0; x < 9; x++) {
                router.paint(0, x, y, 1);
                router.paint(1, x, y, 1);
            }
        }
        due.is("seven taken cells and a pin taken back", router.push(0), 78);
        due.picture("all that was painted is gone", router, 9, 2,
                "000000000 ......... .........", "......... 1.......1 .........");
        GridRouter spaced = new GridRouter(7, 1, 0, 1);
        spaced.net(0, 0, 0, 0, 8, 0);
        spaced.net(1, 0, 2, 1, 8, 2);
        for (int x = 0; x < 9; x++) {
            for (int y = 0; y < 3; y++) {
                spaced.paint(0, x, y, 1);
                spaced.paint(1, x, y, 1);
            }
        }
        due.is("spacing 2: seven taken cells and a pin beside one", spaced.push(0), 88);
    }

    /** Five others, each with a wire across the way: all of them are pushed out at once. */
    private static void pushesOutAllOthers() {
        GridRouter router = new GridRouter(5, 3, 3, 0);
        router.net(0, 0, 0, 0, 6, 0);
        for (int net = 1; net < 6; net++) {
            router.net(0, net, 3, 0, net, 4);
            for (int y = 0; y < 4; y++) {
                router.paint(0, net, y, net);
                router.paint(1, net, y, net);
            }
            router.paint(1, net, 4, net);
            router.stitch(net, 1);
        }
        due.is("push over five wires", router.push(0), 56);
        due.picture("all five are pushed out", router, 7, 5,
                "0000000 ....... .......", "....... ....... .......", "....... ....... .......",
                ".12345. ....... .......", ".12345. ....... .......");
    }

    private static void freeWaysPushNobody() {
        for (int far = 0; far < 2; far++) {
            GridRouter router = new GridRouter(2, 2, 3, far);
            router.net(0, 0, 0, 0, 3, 0);
            router.net(0, 0, 3, 0, 3, 3);
            router.route(1);
            router.paint(0, 1, 2, 1);
            router.paint(1, 1, 0, 1);
            due.is("push over what is free costs what a route does", router.push(0), 3);
            due.picture("nobody is pushed out", router, 4, 4,
                    "0000 .1.. ....", ".... .... ....", ".1.. .... ....", "1111 .... ....");
        }
    }

    /** "or (spacing 2) a neighbour of one": on each side, and neither a corner nor an opposite. */
    private static void pushesOutOnEachSide() {
        int[][] beside = {{0, 1, 2}, {0, 2, 1}, {0, 2, 3}, {0, 3, 1}, {0, 3, 3}, {0, 4, 2}};
        int[][] aside = {{0, 1, 1}, {0, 1, 3}, {0, 4, 1}, {0, 4, 3}, {0, 0, 2}, {0, 5, 2}, {0, 2, 0}, {0, 3, 4},
            {1, 2, 2}, {1, 3, 2}, {1, 1, 2}, {1, 2, 1}};
        for (int far = 0; far < 2; far++) {
            for (int[] at : beside) {
                GridRouter router = pairInTheMiddle(far, at);
                due.is("push beside" + Edges.told(at), router.push(0), far == 1 && at[1] > 2 ? 11 : 1);
                due.is("spacing " + (far + 1) + ", beside its way", router.cell(at[0], at[1], at[2]),
                        far == 1 ? -1 : 1);
            }
            for (int[] at : aside) {
                GridRouter router = pairInTheMiddle(far, at);
                due.is("push aside of" + Edges.told(at), router.push(0), 1);
                due.is("spacing " + (far + 1) + ", aside of its way", router.cell(at[0], at[1], at[2]), 1);
            }
        }
    }

    /** Net 0 has two cells side by side in the middle, net 1 its pins at two corners and one cell more. */
    private static GridRouter pairInTheMiddle(int far, int[] at) {
        GridRouter router = new GridRouter(4, 3, 3, far);
        router.net(0, 2, 2, 0, 3, 2);
        router.net(1, 0, 0, 1, 5, 4);
        router.paint(at[0], at[1], at[2], 1);
        return router;
    }

    /** Each net pushes each other one out, and a second time nobody. */
    private static void pushesOutAnew() {
        for (int net = 0; net < 6; net++) {
            for (int other = 0; other < 6; other++) {
                if (other != net) {
                    pushesOutOnce(net, other);
                }
            }
        }
    }

    private static void pushesOutOnce(int net, int other) {
        GridRouter router = new GridRouter(7, 4, 3, 0);
        for (int one = 0; one < 6; one++) {
            router.net(0, 0, one, 0, 8, one);
            router.paint(1, 7, one, one);
        }
        for (int y = 0; y < 6; y++) {
            router.paint(0, 4, y, other);
            router.paint(1, 4, y, other);
        }
        String who = net + " over " + other;
        due.is("push " + who, router.push(net), 18);
        for (int y = 0; y < 6; y++) {
            due.is("the wall is gone, " + who, router.cell(0, 4, y), y == net ? net : -1);
            due.is("the wall opposite is gone, " + who, router.cell(1, 4, y), -1);
        }
        router.paint(1, 7, other, other);
        due.is("push again " + who, router.push(net), 8);
        for (int one = 0; one < 6; one++) {
            due.is("net " + one + " stays, " + who, router.cell(1, 7, one), one == net ? -1 : one);
            due.is("its pin, too", router.cell(0, 8, one), one);
        }
    }

    /** "-1 if there is none (its pins alone are left then)": one pin is closed in, the first or the second. */
    private static void noWayFromOrToAPin() {
        for (int turn = 0; turn < 2; turn++) {
            GridRouter router = new GridRouter(2, 1, 0, 0);
            if (turn == 0) {
                router.net(0, 0, 0, 1, 3, 2);
            } else {
                router.net(1, 3, 2, 0, 0, 0);
            }
            router.net(0, 3, 0, 0, 3, 1);
            router.paint(0, 2, 2, 0);
            router.stitch(2, 2);
            router.block(0, 1, 0);
            router.block(1, 0, 0);
            router.paint(0, 0, 1, 1);
            due.is("one step, taken", router.push(0), 16);
            router.paint(0, 0, 1, 1);
            router.block(0, 0, 1);
            due.is("no step", router.push(0), -1);
            due.picture("its pins alone are left, nobody is pushed out", router, 4, 3,
                    "0..1 .... ....", "1..1 .... ....", ".... ...0 ....");
        }
    }

    /** Spacing 2: what lies beside another's pin is barred for a push as well. */
    private static void noWayBesidePins() {
        for (int far = 0; far < 2; far++) {
            GridRouter router = new GridRouter(2, 0, 0, far);
            router.net(0, 0, 0, 1, 3, 1);
            router.net(0, 2, 0, 1, 2, 0);
            due.is("past pins, spacing " + (far + 1), router.push(0), far == 0 ? 5 : -1);
        }
        GridRouter router = new GridRouter(2, 0, 0, 0);
        router.net(0, 0, 0, 0, 3, 0);
        router.net(0, 2, 0, 1, 2, 0);
        router.net(0, 2, 1, 1, 2, 1);
        due.is("spacing 1: no way over pins", router.push(0), -1);
        router.paint(0, 2, 0, -1);
        due.is("nor over a pin that none has", router.push(0), -1);
        router.paint(0, 2, 0, 0);
        due.is("nor over a pin that it holds itself", router.push(0), -1);
        due.picture("its pins alone are left", router, 4, 2, "0..0 ..1. ....", "..2. ..2. ....");
    }

    /** Each pin alone and both, none's, another's, with a way and without one. */
    private static void takesPaintedPinsBack() {
        for (int first = -1; first < 2; first++) {
            for (int second = -1; second < 2; second++) {
                GridRouter router = new GridRouter(1, 0, 0, 0);
                router.net(0, 0, 0, 0, 2, 0);
                router.net(1, 0, 1, 1, 2, 1);
                router.paint(1, 1, 0, 1);
                router.paint(0, 0, 0, first);
                router.paint(0, 2, 0, second);
                due.is("pins painted " + Edges.told(first, second), router.push(0), 2);
                due.picture("all are its cells, net 1 is not pushed out", router, 3, 2,
                        "000 .1. ...", "... 1.1 ...");
                for (int layer = 0; layer < 2; layer++) {
                    router.block(layer, 1, 0);
                    router.block(layer, 1, 1);
                }
                router.paint(0, 0, 0, first);
                router.paint(0, 2, 0, second);
                due.is("no way, pins painted " + Edges.told(first, second), router.push(0), -1);
                due.picture("its pins are left", router, 3, 2, "0.0 .1. ...", "... 1.1 ...");
            }
        }
    }

    private static GridRouter used() {
        GridRouter router = new GridRouter(1, 0, 3, 0);
        router.net(0, 0, 0, 0, 2, 0);
        router.net(1, 0, 1, 1, 2, 1);
        router.push(0);
        router.block(0, 1, 1);
        router.stitch(2, 1);
        router.paint(0, 2, 0, -1);
        return router;
    }

    /** "IndexOutOfBoundsException if there is no such net". */
    private static void refusesWhatIsNoNet() {
        for (int net : Edges.beyond(2)) {
            due.refuses("push(" + net + ")", IndexOutOfBoundsException.class, PushTest::used,
                    router -> router.push(net));
        }
        for (int net : Edges.beyond(0)) {
            due.refuses("push(" + net + ") without nets", IndexOutOfBoundsException.class,
                    () -> new GridRouter(0, 0, 0, 0), router -> router.push(net));
        }
        due.refuses("push(6) of six", IndexOutOfBoundsException.class, Edges::sixNets, router -> router.push(6));
    }
}
