/** Promise 4: route. */
public final class RouteTest {
    private static final Due due = new Due();

    public static void main(String[] args) {
        choosesAmongEqualWays();
        changesLayers();
        keepsOffOthers();
        keepsItsSpace();
        pinsAreFree();
        goneIsWhatItHad();
        refuses();
        due.end();
    }

    private static void choosesAmongEqualWays() {
        GridRouter down = new GridRouter(2, 1, 3, 0);
        down.net(0, 0, 0, 0, 3, 2);
        due.is("route", down.route(0), 5);
        due.picture("from the second pin back, x less by 1 first", down, 4, 3,
                "0... .... ....", "0... .... ....", "0000 .... ....");
        GridRouter up = new GridRouter(2, 1, 3, 0);
        up.net(0, 3, 2, 0, 0, 0);
        due.is("route back", up.route(0), 5);
        due.picture("x more by 1 before y", up, 4, 3,
                "0000 .... ....", "...0 .... ....", "...0 .... ....");
        GridRouter ring = new GridRouter(1, 1, 3, 0);
        ring.net(0, 1, 0, 0, 1, 2);
        ring.block(0, 1, 1);
        due.is("route round on either side", ring.route(0), 4);
        due.picture("x less before x more", ring, 3, 3, "00. ... ...", "0.. ... ...", "00. ... ...");
        GridRouter rise = new GridRouter(2, 1, 3, 0);
        rise.net(0, 3, 0, 0, 0, 2);
        due.is("route to a lower left", rise.route(0), 5);
        due.picture("x more before y less", rise, 4, 3,
                "...0 .... ....", "...0 .... ....", "0000 .... ....");
        GridRouter detour = new GridRouter(2, 1, 3, 0);
        detour.net(0, 0, 1, 0, 3, 1);
        detour.block(0, 1, 1);
        due.is("route round a block", detour.route(0), 5);
        due.picture("y less before y more", detour, 4, 3,
                "000. .... ....", "0.00 .... ....", ".... .... ....");
        GridRouter through = new GridRouter(1, 0, 0, 0);
        through.net(1, 0, 0, 0, 1, 1);
        due.is("route through a via", through.route(0), 3);
        due.picture("the opposite comes last", through, 3, 2,
                "0.. 0.. #..", "00. ... ...");
    }

    private static void changesLayers() {
        GridRouter router = new GridRouter(3, 0, 3, 0);
        router.net(0, 0, 0, 0, 4, 0);
        router.block(0, 2, 0);
        router.block(0, 2, 1);
        due.is("two vias for 4 each", router.route(0), 12);
        due.picture("under the blocks", router, 5, 2,
                "0..00 0000. #..#.", "..... ..... .....");
        router.block(1, 2, 0);
        due.is("round one more", router.route(0), 14);
        router.block(1, 2, 1);
        due.is("no way", router.route(0), -1);
        due.picture("only the pins are left", router, 5, 2, "0...0 ..... .....", "..... ..... .....");
    }

    private static void keepsOffOthers() {
        GridRouter router = new GridRouter(1, 0, 0, 0);
        router.net(0, 1, 0, 0, 1, 1);
        router.net(0, 0, 0, 0, 2, 0);
        due.is("over another's pins: none, under them", router.route(1), 4);
        router.paint(1, 1, 0, 0);
        due.is("round another's cell", router.route(1), 6);
        router.paint(1, 1, 1, 0);
        due.is("no way through others", router.route(1), -1);
        due.is("what is another's stays", router.cell(1, 1, 1), 0);
        router.paint(0, 1, 0, -1);
        due.is("a pin painted over is still barred", router.route(1), -1);
        router.paint(1, 1, 1, -1);
        due.is("a cell that is none's is free", router.route(1), 6);
    }

    private static void keepsItsSpace() {
        GridRouter router = new GridRouter(3, 3, 3, 1);
        router.net(0, 0, 2, 0, 4, 2);
        router.net(0, 2, 0, 1, 2, 0);
        due.is("beside no pin", router.route(0), 4);
        router.rip(0);
        router.net(1, 4, 4, 1, 4, 3);
        router.paint(0, 2, 1, 1);
        due.is("round a wire and its neighbours", router.route(0), 6);
        due.picture("one cell away from wires and pins", router, 5, 5,
                "..1.. ..1.. .....", "..1.. ..... .....", "0..00 ..... .....", "0000. ....2 .....",
                "..... ....2 .....");
        due.is("no crowd", router.faults(1), 0);
    }

    private static void pinsAreFree() {
        GridRouter router = new GridRouter(2, 0, 3, 1);
        router.net(0, 0, 0, 0, 3, 0);
        router.net(1, 0, 1, 1, 3, 1);
        router.paint(0, 0, 0, -1);
        router.paint(0, 3, 0, 1);
        router.paint(0, 3, 1, 1);
        router.stitch(3, 0);
        due.is("its pins are its own before a way is looked for, and free beside a wire", router.route(0), 3);
        due.picture("all its cells, and a via that was another's", router, 4, 2,
                "0000 .... ...#", "...1 1..1 ....");
        router.paint(0, 0, 0, -1);
        router.paint(0, 3, 0, 1);
        router.paint(0, 1, 1, 1);
        router.stitch(0, 0);
        due.is("what is beside a wire is not free", router.route(0), -1);
        due.picture("only its pins are left, both of them, and vias that were not its", router, 4, 2,
                "0..0 .... #..#", ".1.1 1..1 ....");
        due.is("still no way", router.route(0), -1);
        due.picture("the vias at its pins were its own by now", router, 4, 2,
                "0..0 .... ....", ".1.1 1..1 ....");
        GridRouter close = new GridRouter(0, 0, 0, 1);
        close.net(0, 0, 0, 0, 1, 0);
        close.net(1, 0, 1, 1, 1, 1);
        close.paint(0, 0, 1, 1);
        close.paint(0, 1, 0, 1);
        due.is("pins side by side, one beside a wire, one another's", close.route(0), 1);
        due.picture("the painted pin is taken back", close, 2, 2, "00 .. ..", "1. 11 ..");
    }

    private static void goneIsWhatItHad() {
        GridRouter router = new GridRouter(2, 1, 0, 0);
        router.net(0, 0, 0, 0, 3, 0);
        router.net(1, 0, 2, 1, 3, 2);
        router.paint(1, 2, 1, 0);
        router.stitch(2, 1);
        router.stitch(0, 0);
        router.stitch(1, 2);
        due.is("route", router.route(0), 3);
        due.picture("its old cells and vias are gone, others' stay", router, 4, 3,
                "0000 .... ....", ".... .... ....", ".... 1..1 .#..");
        due.is("the same again", router.route(0), 3);
    }

    private static void refuses() {
        GridRouter router = new GridRouter(0, 0, 0, 0);
        router.net(0, 0, 0, 0, 1, 1);
        due.fails("route(-1)", IndexOutOfBoundsException.class, () -> router.route(-1));
        due.fails("route(1)", IndexOutOfBoundsException.class, () -> router.route(1));
        due.fails("route of the greatest", IndexOutOfBoundsException.class,
                () -> router.route(Integer.MAX_VALUE));
        due.fails("route of the least", IndexOutOfBoundsException.class, () -> router.route(Integer.MIN_VALUE));
    }
}
