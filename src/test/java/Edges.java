import java.util.ArrayList;
import java.util.List;

/** Numbers just outside what there is, and far outside. */
final class Edges {
    private Edges() { }

    /** One too small, one too large, the least and the greatest of all. */
    static int[] beyond(int size) {
        return new int[] {-1, size, Integer.MIN_VALUE, Integer.MAX_VALUE};
    }

    /** Places {x, y} with one wrong number, the other one at an end, and with two wrong ones. */
    static List<int[]> noPlaces(int width, int height) {
        List<int[]> places = new ArrayList<>();
        for (int x : beyond(width)) {
            places.add(new int[] {x, 0});
            places.add(new int[] {x, height - 1});
            for (int y : beyond(height)) {
                places.add(new int[] {x, y});
            }
        }
        for (int y : beyond(height)) {
            places.add(new int[] {0, y});
            places.add(new int[] {width - 1, y});
        }
        return places;
    }

    /** Cells {layer, x, y} with one wrong number or more. */
    static List<int[]> noCells(int width, int height) {
        List<int[]> cells = new ArrayList<>();
        for (int[] at : noPlaces(width, height)) {
            cells.add(new int[] {0, at[0], at[1]});
            cells.add(new int[] {1, at[0], at[1]});
        }
        for (int layer : beyond(2)) {
            cells.add(new int[] {layer, 0, 0});
            cells.add(new int[] {layer, width - 1, 0});
            cells.add(new int[] {layer, 0, height - 1});
            cells.add(new int[] {layer, width - 1, height - 1});
        }
        return cells;
    }

    /** As many nets as there may be. */
    static GridRouter sixNets() {
        GridRouter router = new GridRouter(4, 0, 0, 0);
        for (int net = 0; net < 6; net++) {
            router.net(0, net, 0, 0, net, 1);
        }
        router.block(1, 0, 0);
        return router;
    }

    static String told(int... numbers) {
        StringBuilder text = new StringBuilder("(");
        for (int i = 0; i < numbers.length; i++) {
            text.append(i == 0 ? "" : ", ").append(numbers[i]);
        }
        return text.append(')').toString();
    }
}
