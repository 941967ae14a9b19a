import java.util.ArrayList;
import java.util.HashMap;
import java.util.HashSet;
import java.util.List;
import java.util.Map;
import java.util.Set;
import java.util.TreeSet;

/** The document once more, in its plainest form and slow: what GridRouter is held against. */
final class PlainModel {
    record Place(int x, int y) { }

    record Cell(int layer, int x, int y) {
        Place place() {
            return new Place(x, y);
        }

        Cell opposite() {
            return new Cell(1 - layer, x, y);
        }
    }

    record Net(Cell first, Cell second) {
        boolean hasPin(Cell cell) {
            return cell.equals(first) || cell.equals(second);
        }

        int span() {
            return Math.abs(first.layer - second.layer) + Math.abs(first.x - second.x)
                    + Math.abs(first.y - second.y);
        }
    }

    record Shape(int layer, int y, int firstX, int lastX, int net) { }

    /** A way from the second pin back, and what it costs. */
    record Way(List<Cell> cells, int cost) { }

    private static final int SMALL = 12;

    private final int width;
    private final int height;
    private final int viaCost;
    private final boolean spaced;
    private final List<Cell> cells = new ArrayList<>();
    private final List<Net> nets = new ArrayList<>();
    private final Set<Cell> blocked = new HashSet<>();
    private final Map<Cell, Integer> owner = new HashMap<>();
    private final Set<Place> vias = new HashSet<>();
    private Way best;

    PlainModel(int w, int h, int via, int far) {
        width = 2 + Math.floorMod(w, 8);
        height = 2 + Math.floorMod(h, 8);
        viaCost = 1 + Math.floorMod(via, 4);
        spaced = Math.floorMod(far, 2) == 1;
        for (int layer = 0; layer < 2; layer++) {
            for (int y = 0; y < height; y++) {
                for (int x = 0; x < width; x++) {
                    cells.add(new Cell(layer, x, y));
                }
            }
        }
    }

    int width() {
        return width;
    }

    int height() {
        return height;
    }

    boolean block(int layer, int x, int y) {
        Cell cell = given(layer, x, y);
        if (isPin(cell)) {
            throw new IllegalStateException();
        }
        return blocked.add(cell) || !blocked.remove(cell);
    }

    int net(int layer1, int x1, int y1, int layer2, int x2, int y2) {
        Cell first = given(layer1, x1, y1);
        Cell second = given(layer2, x2, y2);
        if (first.equals(second) || isPin(first) || isPin(second)
                || barred(first, nets.size()) || barred(second, nets.size())) {
            throw new IllegalArgumentException();
        }
        if (nets.size() >= 6) {
            throw new IllegalStateException();
        }
        nets.add(new Net(first, second));
        owner.put(first, nets.size() - 1);
        owner.put(second, nets.size() - 1);
        return nets.size() - 1;
    }

    int route(int net) {
        known(net);
        gone(Set.of(net));
        Way way = leastWay(net, false);
        if (way == null) {
            return -1;
        }
        become(way, net);
        return way.cost;
    }

    int push(int net) {
        known(net);
        return pushedOut(net).cost;
    }

    int all(boolean sorted, int pushes) {
        if (pushes < 0 || pushes > 20) {
            throw new IllegalArgumentException();
        }
        List<Integer> line = new ArrayList<>();
        for (int net = 0; net < nets.size(); net++) {
            line.add(net);
        }
        gone(new HashSet<>(line));
        if (sorted) {
            line.sort((a, b) -> Integer.compare(nets.get(a).span(), nets.get(b).span()));
        }
        int done = 0;
        while (!line.isEmpty()) {
            int net = line.remove(0);
            if (route(net) == -1 && done < pushes) {
                Push push = pushedOut(net);
                if (push.cost != -1) {
                    done++;
                    for (int other : push.out) {
                        if (!line.contains(other)) {
                            line.add(other);
                        }
                    }
                }
            }
        }
        boolean again = true;
        while (again) {
            again = false;
            for (int net = 0; net < nets.size(); net++) {
                again |= !joined(net) && route(net) != -1;
            }
        }
        return nets.size() - faults(3);
    }

    void rip(int net) {
        known(net);
        gone(Set.of(net));
    }

    void paint(int layer, int x, int y, int net) {
        Cell cell = given(layer, x, y);
        if (net == -1) {
            owner.remove(cell);
        } else {
            known(net);
            owner.put(cell, net);
        }
    }

    boolean stitch(int x, int y) {
        Place place = given(0, x, y).place();
        return vias.add(place) || !vias.remove(place);
    }

    int cell(int layer, int x, int y) {
        return owner.getOrDefault(given(layer, x, y), -1);
    }

    boolean via(int x, int y) {
        return vias.contains(given(0, x, y).place());
    }

    int faults(int kind) {
        int sum = 0;
        switch (kind) {
            case 0 -> {
                for (Cell cell : owner.keySet()) {
                    sum += blocked.contains(cell) || isOthersPin(cell, owner.get(cell)) ? 1 : 0;
                }
            }
            case 1 -> {
                for (Cell cell : owner.keySet()) {
                    for (Cell near : neighbours(cell)) {
                        sum += spaced && isOthers(near, owner.get(cell)) ? 1 : 0;
                    }
                }
                sum /= 2;
            }
            case 2 -> {
                for (Place at : vias) {
                    Integer above = owner.get(new Cell(0, at.x, at.y));
                    Integer below = owner.get(new Cell(1, at.x, at.y));
                    sum += above == null || !above.equals(below) ? 1 : 0;
                }
            }
            case 3 -> {
                for (int net = 0; net < nets.size(); net++) {
                    sum += joined(net) ? 0 : 1;
                }
            }
            default -> throw new IllegalArgumentException();
        }
        return sum;
    }

    int shapes() {
        return listed().size();
    }

    int shape(int i, int what) {
        List<Shape> all = listed();
        if (i < 0 || i >= all.size()) {
            throw new IndexOutOfBoundsException();
        }
        Shape shape = all.get(i);
        return switch (what) {
            case 0 -> shape.layer;
            case 1 -> shape.y;
            case 2 -> shape.firstX;
            case 3 -> shape.lastX;
            case 4 -> shape.net;
            default -> throw new IllegalArgumentException();
        };
    }

    private List<Shape> listed() {
        List<Shape> all = new ArrayList<>();
        for (Cell cell : cells) {
            Integer net = owner.get(cell);
            Shape last = all.isEmpty() ? null : all.get(all.size() - 1);
            if (net == null) {
                continue;
            }
            if (last != null && last.layer == cell.layer && last.y == cell.y && last.lastX == cell.x - 1
                    && last.net == net) {
                all.set(all.size() - 1, new Shape(last.layer, last.y, last.firstX, cell.x, net));
            } else {
                all.add(new Shape(cell.layer, cell.y, cell.x, cell.x, net));
            }
        }
        return all;
    }

    private Cell given(int layer, int x, int y) {
        Cell cell = new Cell(layer, x, y);
        if (!cells.contains(cell)) {
            throw new IndexOutOfBoundsException();
        }
        return cell;
    }

    private void known(int net) {
        if (net < 0 || net >= nets.size()) {
            throw new IndexOutOfBoundsException();
        }
    }

    private List<Cell> neighbours(Cell cell) {
        List<Cell> near = new ArrayList<>();
        near.add(new Cell(cell.layer, cell.x - 1, cell.y));
        near.add(new Cell(cell.layer, cell.x + 1, cell.y));
        near.add(new Cell(cell.layer, cell.x, cell.y - 1));
        near.add(new Cell(cell.layer, cell.x, cell.y + 1));
        near.removeIf(one -> one.x < 0 || one.x >= width || one.y < 0 || one.y >= height);
        return near;
    }

    /** In the order in which predecessors are looked for. */
    private List<Cell> before(Cell cell) {
        List<Cell> near = neighbours(cell);
        near.add(cell.opposite());
        return near;
    }

    private boolean isPin(Cell cell) {
        return nets.stream().anyMatch(net -> net.hasPin(cell));
    }

    private boolean isOthersPin(Cell cell, int net) {
        for (int other = 0; other < nets.size(); other++) {
            if (other != net && nets.get(other).hasPin(cell)) {
                return true;
            }
        }
        return false;
    }

    private boolean isOthers(Cell cell, int net) {
        return owner.containsKey(cell) && owner.get(cell) != net;
    }

    private boolean barred(Cell cell, int net) {
        return blocked.contains(cell) || isOthersPin(cell, net)
                || spaced && neighbours(cell).stream().anyMatch(near -> isOthersPin(near, net));
    }

    private boolean taken(Cell cell, int net) {
        return isOthers(cell, net) || spaced && neighbours(cell).stream().anyMatch(near -> isOthers(near, net));
    }

    /** What is theirs is theirs before any of them has its pins back: vias at painted pins, too. */
    private void gone(Set<Integer> some) {
        for (Cell cell : cells) {
            if (some.contains(owner.getOrDefault(cell, -1))) {
                vias.remove(cell.place());
            }
        }
        owner.values().removeIf(some::contains);
        for (int net : some) {
            owner.put(nets.get(net).first, net);
            owner.put(nets.get(net).second, net);
        }
    }

    private void become(Way way, int net) {
        for (int i = 0; i < way.cells.size(); i++) {
            Cell cell = way.cells.get(i);
            owner.put(cell, net);
            if (i > 0 && way.cells.get(i - 1).layer != cell.layer) {
                vias.add(cell.place());
            }
        }
    }

    private record Push(int cost, Set<Integer> out) { }

    private Push pushedOut(int net) {
        gone(Set.of(net));
        Set<Integer> out = new TreeSet<>();
        Way way = leastWay(net, true);
        if (way == null) {
            return new Push(-1, out);
        }
        for (Cell cell : way.cells) {
            List<Cell> close = spaced ? neighbours(cell) : new ArrayList<>();
            close.add(cell);
            for (Cell one : close) {
                if (isOthers(one, net)) {
                    out.add(owner.get(one));
                }
            }
        }
        gone(out);
        become(way, net);
        return new Push(way.cost, out);
    }

    private boolean open(Cell cell, int net, boolean pushing) {
        return nets.get(net).hasPin(cell) || !barred(cell, net) && (pushing || !taken(cell, net));
    }

    private int stepCost(Cell from, Cell to, int net, boolean pushing) {
        return (from.layer == to.layer ? 1 : viaCost) + (pushing && taken(to, net) ? 10 : 0);
    }

    /** Small grids by trying every way, others by costs: two readings of one sentence. */
    private Way leastWay(int net, boolean pushing) {
        if (cells.size() > SMALL) {
            return wayByCosts(net, pushing);
        }
        best = null;
        List<Cell> way = new ArrayList<>();
        way.add(nets.get(net).second);
        tryWays(way, 0, net, pushing);
        return best;
    }

    private void tryWays(List<Cell> way, int cost, int net, boolean pushing) {
        Cell cell = way.get(way.size() - 1);
        if (best != null && cost >= best.cost) {
            return;
        }
        if (cell.equals(nets.get(net).first)) {
            best = new Way(List.copyOf(way), cost);
            return;
        }
        for (Cell one : before(cell)) {
            if (open(one, net, pushing) && !way.contains(one)) {
                way.add(one);
                tryWays(way, cost + stepCost(one, cell, net, pushing), net, pushing);
                way.remove(way.size() - 1);
            }
        }
    }

    private Way wayByCosts(int net, boolean pushing) {
        Map<Cell, Integer> least = leastCosts(net, pushing);
        Cell cell = nets.get(net).second;
        if (!least.containsKey(cell)) {
            return null;
        }
        List<Cell> way = new ArrayList<>();
        way.add(cell);
        while (!cell.equals(nets.get(net).first)) {
            for (Cell one : before(cell)) {
                if (least.containsKey(one)
                        && least.get(one) + stepCost(one, cell, net, pushing) == least.get(cell)) {
                    cell = one;
                    break;
                }
            }
            way.add(cell);
        }
        return new Way(way, least.get(nets.get(net).second));
    }

    private Map<Cell, Integer> leastCosts(int net, boolean pushing) {
        Map<Cell, Integer> least = new HashMap<>();
        least.put(nets.get(net).first, 0);
        boolean changed = true;
        while (changed) {
            changed = false;
            for (Cell cell : cells) {
                if (!open(cell, net, pushing)) {
                    continue;
                }
                for (Cell one : before(cell)) {
                    if (least.containsKey(one)) {
                        int cost = least.get(one) + stepCost(one, cell, net, pushing);
                        if (cost < least.getOrDefault(cell, Integer.MAX_VALUE)) {
                            least.put(cell, cost);
                            changed = true;
                        }
                    }
                }
            }
        }
        return least;
    }

    private boolean joined(int net) {
        Set<Cell> reached = new HashSet<>();
        List<Cell> rest = new ArrayList<>();
        rest.add(nets.get(net).first);
        while (!rest.isEmpty()) {
            Cell cell = rest.remove(rest.size() - 1);
            if (owner.getOrDefault(cell, -1) == net && reached.add(cell)) {
                rest.addAll(neighbours(cell));
                if (vias.contains(cell.place())) {
                    rest.add(cell.opposite());
                }
            }
        }
        return reached.contains(nets.get(net).second);
    }
}
