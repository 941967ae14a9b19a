/** All of an object's state that its calls tell; it is left as it was. */
final class State {
    private static final int LONGEST = 9;

    private State() { }

    static String of(GridRouter router) {
        int width = width(router);
        int height = height(router);
        return Due.draw(router, width, height) + blocks(router, width, height) + "nets " + nets(router) + "\n";
    }

    static int width(GridRouter router) {
        int width = 0;
        while (width < LONGEST && isThere(router, width, 0)) {
            width++;
        }
        return width;
    }

    static int height(GridRouter router) {
        int height = 0;
        while (height < LONGEST && isThere(router, 0, height)) {
            height++;
        }
        return height;
    }

    private static boolean isThere(GridRouter router, int x, int y) {
        try {
            router.cell(0, x, y);
            return true;
        } catch (IndexOutOfBoundsException e) {
            return false;
        }
    }

    /** How many nets there are: a cell is painted with each number, and then as it was. */
    static int nets(GridRouter router) {
        int was = router.cell(0, 0, 0);
        int count = 0;
        try {
            while (count < 100) {
                router.paint(0, 0, 0, count);
                count++;
            }
        } catch (IndexOutOfBoundsException e) {
            router.paint(0, 0, 0, was);
        }
        return count;
    }

    /** Each cell 'P' for a pin, 'X' if it is blocked, else '.': it is blocked twice to see that. */
    private static String blocks(GridRouter router, int width, int height) {
        StringBuilder drawn = new StringBuilder();
        for (int y = 0; y < height; y++) {
            for (int layer = 0; layer < 2; layer++) {
                for (int x = 0; x < width; x++) {
                    drawn.append(block(router, layer, x, y));
                }
                drawn.append(' ');
            }
            drawn.append('\n');
        }
        return drawn.toString();
    }

    private static char block(GridRouter router, int layer, int x, int y) {
        try {
            router.block(layer, x, y);
            return router.block(layer, x, y) ? 'X' : '.';
        } catch (IllegalStateException e) {
            return 'P';
        }
    }
}
