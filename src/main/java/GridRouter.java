import java.util.Arrays;

/**
 * Lays nets on a grid of two layers, and checks any layout for faults.
 *
 * <p>All rows are made in the constructor and used again, so that no call but a
 * throwing one makes an object.
 */
public final class GridRouter {
    private static final int NONE = -1;
    private static final int LAYERS = 2;
    private static final int MOST_NETS = 6;
    private static final int MOST_PUSHES = 20;
    private static final int FAULT_KINDS = 4;
    private static final int SHAPE_FACTS = 5;

    private final Grid grid;
    private final Nets nets;
    private final Layout layout;
    private final Rules rules;
    private final Router router;
    private final Checker checker;
    private final Shapes rows;

    public GridRouter(int w, int h, int via, int far) {
        grid = new Grid(2 + (w & 7), 2 + (h & 7));
        nets = new Nets(grid);
        layout = new Layout(grid, nets);
        rules = new Rules(grid, nets, layout, (far & 1) == 1);
        checker = new Checker(grid, nets, layout, rules);
        router = new Router(grid, nets, layout, rules, checker, 1 + (via & 3));
        rows = new Shapes(grid, layout);
    }

    public boolean block(int layer, int x, int y) throws IndexOutOfBoundsException, IllegalStateException {
        if (!grid.hasCell(layer, x, y)) {
            throw new IndexOutOfBoundsException("no such cell");
        }
        int cell = grid.cellAt(layer, x, y);
        if (nets.pinOwner[cell] != NONE) {
            throw new IllegalStateException("a pin");
        }
        rules.blocked[cell] = !rules.blocked[cell];
        return rules.blocked[cell];
    }

    public int net(int layer1, int x1, int y1, int layer2, int x2, int y2)
            throws IndexOutOfBoundsException, IllegalArgumentException, IllegalStateException {
        if (!grid.hasCell(layer1, x1, y1) || !grid.hasCell(layer2, x2, y2)) {
            throw new IndexOutOfBoundsException("no such cell");
        }
        int first = grid.cellAt(layer1, x1, y1);
        int second = grid.cellAt(layer2, x2, y2);
        if (first == second || rules.isBarred(first, nets.count) || rules.isBarred(second, nets.count)) {
            throw new IllegalArgumentException("not a place for a pin");
        }
        if (nets.count >= MOST_NETS) {
            throw new IllegalStateException("no more nets");
        }
        int number = nets.add(first, second);
        layout.owner[first] = number;
        layout.owner[second] = number;
        return number;
    }

    public int route(int net) throws IndexOutOfBoundsException {
        if (!nets.has(net)) {
            throw new IndexOutOfBoundsException("no such net");
        }
        return router.lay(net);
    }

    public int push(int net) throws IndexOutOfBoundsException {
        if (!nets.has(net)) {
            throw new IndexOutOfBoundsException("no such net");
        }
        return router.shove(net);
    }

    public int all(boolean sorted, int pushes) throws IllegalArgumentException {
        if (pushes < 0 || pushes > MOST_PUSHES) {
            throw new IllegalArgumentException("not so many pushes");
        }
        router.lineUp(sorted);
        router.serveLine(pushes);
        router.retryLoose();
        return nets.count - checker.loose();
    }

    public void rip(int net) throws IndexOutOfBoundsException {
        if (!nets.has(net)) {
            throw new IndexOutOfBoundsException("no such net");
        }
        layout.strip(net);
    }

    public void paint(int layer, int x, int y, int net) throws IndexOutOfBoundsException {
        if (!grid.hasCell(layer, x, y) || (net != NONE && !nets.has(net))) {
            throw new IndexOutOfBoundsException("no such cell or net");
        }
        layout.owner[grid.cellAt(layer, x, y)] = net;
    }

    public boolean stitch(int x, int y) throws IndexOutOfBoundsException {
        if (!grid.hasPlace(x, y)) {
            throw new IndexOutOfBoundsException("no such place");
        }
        int place = grid.cellAt(0, x, y);
        layout.vias[place] = !layout.vias[place];
        return layout.vias[place];
    }

    public int cell(int layer, int x, int y) throws IndexOutOfBoundsException {
        if (!grid.hasCell(layer, x, y)) {
            throw new IndexOutOfBoundsException("no such cell");
        }
        return layout.owner[grid.cellAt(layer, x, y)];
    }

    public boolean via(int x, int y) throws IndexOutOfBoundsException {
        if (!grid.hasPlace(x, y)) {
            throw new IndexOutOfBoundsException("no such place");
        }
        return layout.vias[grid.cellAt(0, x, y)];
    }

    public int faults(int kind) throws IllegalArgumentException {
        if (kind < 0 || kind >= FAULT_KINDS) {
            throw new IllegalArgumentException("no such kind");
        }
        return checker.count(kind);
    }

    public int shapes() {
        return rows.count();
    }

    public int shape(int i, int what) throws IndexOutOfBoundsException, IllegalArgumentException {
        int start = rows.startOf(i);
        if (start == NONE) {
            throw new IndexOutOfBoundsException("no such shape");
        }
        if (what < 0 || what >= SHAPE_FACTS) {
            throw new IllegalArgumentException("no such what");
        }
        return rows.tell(start, what);
    }

    /**
     * Cells by number: layer by layer, in it y by y, in it x by x. A place (x, y) has
     * the number of its cell on layer 0.
     */
    private static final class Grid {
        static final int LEFT = 0;
        static final int RIGHT = 1;
        static final int UP = 2;
        static final int DOWN = 3;
        static final int OPPOSITE = 4;
        static final int DIRECTIONS = 5;

        final int width;
        final int height;
        final int area;
        final int cells;
        final int[] xOf;
        final int[] yOf;
        /** For each cell the next one in each direction, or NONE beyond the edge. */
        final int[] beside;

        Grid(int width, int height) {
            this.width = width;
            this.height = height;
            area = width * height;
            cells = LAYERS * area;
            xOf = new int[cells];
            yOf = new int[cells];
            beside = new int[cells * DIRECTIONS];
            int cell = 0;
            for (int layer = 0; layer < LAYERS; layer++) {
                for (int y = 0; y < height; y++) {
                    for (int x = 0; x < width; x++) {
                        xOf[cell] = x;
                        yOf[cell] = y;
                        link(cell, x, y);
                        cell++;
                    }
                }
            }
        }

        // The directions' order is the one in which the document looks for a predecessor.
        private void link(int cell, int x, int y) {
            int at = cell * DIRECTIONS;
            beside[at + LEFT] = x > 0 ? cell - 1 : NONE;
            beside[at + RIGHT] = x < width - 1 ? cell + 1 : NONE;
            beside[at + UP] = y > 0 ? cell - width : NONE;
            beside[at + DOWN] = y < height - 1 ? cell + width : NONE;
            beside[at + OPPOSITE] = cell < area ? cell + area : cell - area;
        }

        boolean hasPlace(int x, int y) {
            return x >= 0 && x < width && y >= 0 && y < height;
        }

        boolean hasCell(int layer, int x, int y) {
            return layer >= 0 && layer < LAYERS && hasPlace(x, y);
        }

        int cellAt(int layer, int x, int y) {
            return layer * area + y * width + x;
        }

        int layerOf(int cell) {
            return cell < area ? 0 : 1;
        }

        int placeOf(int cell) {
            return cell < area ? cell : cell - area;
        }

        int next(int cell, int direction) {
            return beside[cell * DIRECTIONS + direction];
        }
    }

    private static final class Nets {
        final int[] first = new int[MOST_NETS];
        final int[] second = new int[MOST_NETS];
        final int[] pinOwner;
        int count = 0;
        private final Grid grid;

        Nets(Grid grid) {
            this.grid = grid;
            pinOwner = new int[grid.cells];
            Arrays.fill(pinOwner, NONE);
        }

        boolean has(int net) {
            return net >= 0 && net < count;
        }

        int add(int firstPin, int secondPin) {
            int number = count;
            first[number] = firstPin;
            second[number] = secondPin;
            pinOwner[firstPin] = number;
            pinOwner[secondPin] = number;
            count++;
            return number;
        }

        /** The sum of the differences of the pins' layers, x and y. */
        int span(int net) {
            int a = first[net];
            int b = second[net];
            return Math.abs(grid.layerOf(a) - grid.layerOf(b))
                    + Math.abs(grid.xOf[a] - grid.xOf[b])
                    + Math.abs(grid.yOf[a] - grid.yOf[b]);
        }
    }

    private static final class Layout {
        final int[] owner;
        final boolean[] vias;
        private final Grid grid;
        private final Nets nets;

        Layout(Grid grid, Nets nets) {
            this.grid = grid;
            this.nets = nets;
            owner = new int[grid.cells];
            vias = new boolean[grid.area];
            Arrays.fill(owner, NONE);
        }

        /** Of a net its pins alone are left, both of them, also one that was painted over. */
        void strip(int net) {
            clear(net);
            restorePins(net);
        }

        void clear(int net) {
            for (int cell = 0; cell < grid.cells; cell++) {
                if (owner[cell] == net) {
                    owner[cell] = NONE;
                    vias[grid.placeOf(cell)] = false;
                }
            }
        }

        // Only behind clear: a via at a pin that was painted over is not the net's, and stays.
        void restorePins(int net) {
            owner[nets.first[net]] = net;
            owner[nets.second[net]] = net;
        }
    }

    /** What the blocks, the pins and the spacing forbid. */
    private static final class Rules {
        final boolean[] blocked;
        final boolean spaced;
        private final Grid grid;
        private final Nets nets;
        private final Layout layout;

        Rules(Grid grid, Nets nets, Layout layout, boolean spaced) {
            this.grid = grid;
            this.nets = nets;
            this.layout = layout;
            this.spaced = spaced;
            blocked = new boolean[grid.cells];
        }

        boolean isBarred(int cell, int net) {
            return blocked[cell] || isClose(nets.pinOwner, cell, net);
        }

        boolean isTaken(int cell, int net) {
            return isClose(layout.owner, cell, net);
        }

        // Pins bar and wires take in the same reach, so one look serves both rows.
        private boolean isClose(int[] netOf, int cell, int net) {
            if (netOf[cell] != NONE && netOf[cell] != net) {
                return true;
            }
            int at = cell * Grid.DIRECTIONS;
            int looked = spaced ? Grid.OPPOSITE : 0;
            for (int direction = 0; direction < looked; direction++) {
                int near = grid.beside[at + direction];
                if (near != NONE && netOf[near] != NONE && netOf[near] != net) {
                    return true;
                }
            }
            return false;
        }
    }

    /** Finds a way that costs least, and of those the one that the document chooses. */
    private static final class WayFinder {
        static final int NO_WAY = -1;
        private static final int TAKEN_COST = 10;
        private static final int SHUT = -1;
        // Far above what any way can cost, and far below what would wrap around.
        private static final int UNREACHED = 1000000;

        /** The cells of the way that was found last, from the second pin back. */
        final int[] way;
        int length = 0;
        private final Grid grid;
        private final Nets nets;
        private final Rules rules;
        private final int viaCost;
        private final int[] toll;
        private final int[] least;
        private final int[] queue;
        private final boolean[] waits;
        private int head = 0;
        private int waiting = 0;

        WayFinder(Grid grid, Nets nets, Rules rules, int viaCost) {
            this.grid = grid;
            this.nets = nets;
            this.rules = rules;
            this.viaCost = viaCost;
            way = new int[grid.cells];
            toll = new int[grid.cells];
            least = new int[grid.cells];
            queue = new int[grid.cells];
            waits = new boolean[grid.cells];
        }

        int find(int net, boolean pushing) {
            for (int cell = 0; cell < grid.cells; cell++) {
                toll[cell] = pushing ? pushToll(cell, net) : freeToll(cell, net);
            }
            spread(nets.first[net]);
            int cost = least[nets.second[net]];
            if (cost == UNREACHED) {
                length = 0;
                return NO_WAY;
            }
            trace(nets.first[net], nets.second[net]);
            return cost;
        }

        private int freeToll(int cell, int net) {
            if (nets.pinOwner[cell] == net) {
                return 0;
            }
            return rules.isBarred(cell, net) || rules.isTaken(cell, net) ? SHUT : 0;
        }

        private int pushToll(int cell, int net) {
            if (nets.pinOwner[cell] != net && rules.isBarred(cell, net)) {
                return SHUT;
            }
            return rules.isTaken(cell, net) ? TAKEN_COST : 0;
        }

        // A cell comes again whenever a cheaper way to it turns up; the row is gone
        // through at most once for each step of the longest way, hence the bound.
        private void spread(int from) {
            for (int cell = 0; cell < grid.cells; cell++) {
                least[cell] = UNREACHED;
                waits[cell] = false;
            }
            head = 0;
            waiting = 0;
            least[from] = 0;
            enqueue(from);
            int bound = grid.cells * grid.cells;
            for (int turn = 0; turn < bound && waiting > 0; turn++) {
                spreadFrom(dequeue());
            }
        }

        private void spreadFrom(int cell) {
            for (int direction = 0; direction < Grid.DIRECTIONS; direction++) {
                int next = grid.next(cell, direction);
                if (next != NONE && toll[next] != SHUT) {
                    int cost = least[cell] + stepCost(direction) + toll[next];
                    if (cost < least[next]) {
                        least[next] = cost;
                        enqueue(next);
                    }
                }
            }
        }

        private int stepCost(int direction) {
            return direction == Grid.OPPOSITE ? viaCost : 1;
        }

        // No cell waits twice, so a ring as long as the grid has cells never overflows.
        private void enqueue(int cell) {
            if (!waits[cell]) {
                waits[cell] = true;
                int end = head + waiting;
                queue[end < grid.cells ? end : end - grid.cells] = cell;
                waiting++;
            }
        }

        private int dequeue() {
            int cell = queue[head];
            head = head + 1 < grid.cells ? head + 1 : 0;
            waiting--;
            waits[cell] = false;
            return cell;
        }

        private void trace(int first, int second) {
            int cell = second;
            way[0] = cell;
            length = 1;
            while (length < grid.cells && cell != first) {
                cell = predecessor(cell);
                way[length] = cell;
                length++;
            }
        }

        private int predecessor(int cell) {
            for (int direction = 0; direction < Grid.DIRECTIONS; direction++) {
                int before = grid.next(cell, direction);
                if (before != NONE && least[before] + stepCost(direction) + toll[cell] == least[cell]) {
                    return before;
                }
            }
            return cell;
        }
    }

    /** Nets that wait to be routed, none of them twice. */
    private static final class Line {
        private final int[] members = new int[MOST_NETS];
        private int size = 0;

        boolean isEmpty() {
            return size == 0;
        }

        void join(int net) {
            for (int i = 0; i < size; i++) {
                if (members[i] == net) {
                    return;
                }
            }
            members[size] = net;
            size++;
        }

        int leave() {
            int net = members[0];
            size--;
            System.arraycopy(members, 1, members, 0, size);
            return net;
        }

        // Each member moves only past greater spans: equal ones stay by number.
        void sortBySpan(Nets nets) {
            for (int i = 1; i < size; i++) {
                int net = members[i];
                int at = i;
                while (at > 0 && nets.span(members[at - 1]) > nets.span(net)) {
                    members[at] = members[at - 1];
                    at--;
                }
                members[at] = net;
            }
        }
    }

    private static final class Router {
        private static final int MOST_TURNS = MOST_NETS + MOST_NETS * MOST_PUSHES;

        private final Nets nets;
        private final Layout layout;
        private final Grid grid;
        private final Rules rules;
        private final Checker checker;
        private final WayFinder finder;
        private final Line line = new Line();
        private final boolean[] pushedOut = new boolean[MOST_NETS];

        Router(Grid grid, Nets nets, Layout layout, Rules rules, Checker checker, int viaCost) {
            this.grid = grid;
            this.nets = nets;
            this.layout = layout;
            this.rules = rules;
            this.checker = checker;
            finder = new WayFinder(grid, nets, rules, viaCost);
        }

        int lay(int net) {
            layout.strip(net);
            int cost = finder.find(net, false);
            if (cost != WayFinder.NO_WAY) {
                layWay(net);
            }
            return cost;
        }

        int shove(int net) {
            layout.strip(net);
            int cost = finder.find(net, true);
            if (cost != WayFinder.NO_WAY) {
                markPushedOut(net);
                stripPushedOut();
                layWay(net);
            }
            return cost;
        }

        private void layWay(int net) {
            for (int i = 0; i < finder.length; i++) {
                int cell = finder.way[i];
                layout.owner[cell] = net;
                if (i > 0 && grid.next(cell, Grid.OPPOSITE) == finder.way[i - 1]) {
                    layout.vias[grid.placeOf(cell)] = true;
                }
            }
        }

        private void markPushedOut(int net) {
            for (int other = 0; other < MOST_NETS; other++) {
                pushedOut[other] = false;
            }
            for (int i = 0; i < finder.length; i++) {
                int cell = finder.way[i];
                markHolder(cell, net);
                if (rules.spaced) {
                    for (int direction = 0; direction < Grid.OPPOSITE; direction++) {
                        markHolder(grid.next(cell, direction), net);
                    }
                }
            }
        }

        private void markHolder(int cell, int net) {
            if (cell != NONE && layout.owner[cell] != NONE && layout.owner[cell] != net) {
                pushedOut[layout.owner[cell]] = true;
            }
        }

        // All are cleared before one has its pins back: where a pin of one was painted with
        // another one's number, a via is the other one's, and must go with it.
        private void stripPushedOut() {
            for (int other = 0; other < nets.count; other++) {
                if (pushedOut[other]) {
                    layout.clear(other);
                }
            }
            for (int other = 0; other < nets.count; other++) {
                if (pushedOut[other]) {
                    layout.restorePins(other);
                }
            }
        }

        void lineUp(boolean sorted) {
            for (int net = 0; net < nets.count; net++) {
                layout.strip(net);
                line.join(net);
            }
            if (sorted) {
                line.sortBySpan(nets);
            }
        }

        // A net comes again only after a push, which pushes fewer nets than there are:
        // the line is empty before the turns run out.
        void serveLine(int pushes) {
            int done = 0;
            for (int turn = 0; turn < MOST_TURNS && !line.isEmpty(); turn++) {
                int net = line.leave();
                if (lay(net) == WayFinder.NO_WAY && done < pushes && shove(net) != WayFinder.NO_WAY) {
                    done++;
                    lineUpPushedOut();
                }
            }
        }

        private void lineUpPushedOut() {
            for (int other = 0; other < nets.count; other++) {
                if (pushedOut[other]) {
                    line.join(other);
                }
            }
        }

        // A round that goes on has joined a net more, so there are few of them.
        void retryLoose() {
            boolean more = true;
            for (int round = 0; round <= MOST_NETS && more; round++) {
                more = false;
                for (int net = 0; net < nets.count; net++) {
                    if (!checker.isJoined(net) && lay(net) != WayFinder.NO_WAY) {
                        more = true;
                    }
                }
            }
        }
    }

    /** Counts what is wrong, from the layout alone: how wires were laid is not known here. */
    private static final class Checker {
        private final Grid grid;
        private final Nets nets;
        private final Layout layout;
        private final Rules rules;
        private final int[] reached;
        private final boolean[] seen;
        private int found = 0;

        Checker(Grid grid, Nets nets, Layout layout, Rules rules) {
            this.grid = grid;
            this.nets = nets;
            this.layout = layout;
            this.rules = rules;
            reached = new int[grid.cells];
            seen = new boolean[grid.cells];
        }

        int count(int kind) {
            switch (kind) {
                case 0:
                    return misplaced();
                case 1:
                    return crowded();
                case 2:
                    return badVias();
                default:
                    return loose();
            }
        }

        private int misplaced() {
            int sum = 0;
            for (int cell = 0; cell < grid.cells; cell++) {
                int net = layout.owner[cell];
                int pin = nets.pinOwner[cell];
                if (net != NONE && (rules.blocked[cell] || (pin != NONE && pin != net))) {
                    sum++;
                }
            }
            return sum;
        }

        private int crowded() {
            int sum = 0;
            if (rules.spaced) {
                for (int cell = 0; cell < grid.cells; cell++) {
                    // Right and down alone: each pair is seen from one of its cells.
                    sum += clash(cell, grid.next(cell, Grid.RIGHT));
                    sum += clash(cell, grid.next(cell, Grid.DOWN));
                }
            }
            return sum;
        }

        private int clash(int cell, int near) {
            if (near == NONE || layout.owner[cell] == NONE || layout.owner[near] == NONE) {
                return 0;
            }
            return layout.owner[cell] == layout.owner[near] ? 0 : 1;
        }

        private int badVias() {
            int sum = 0;
            for (int place = 0; place < grid.area; place++) {
                if (layout.vias[place]) {
                    int net = layout.owner[place];
                    if (net == NONE || layout.owner[place + grid.area] != net) {
                        sum++;
                    }
                }
            }
            return sum;
        }

        int loose() {
            int sum = 0;
            for (int net = 0; net < nets.count; net++) {
                if (!isJoined(net)) {
                    sum++;
                }
            }
            return sum;
        }

        boolean isJoined(int net) {
            for (int cell = 0; cell < grid.cells; cell++) {
                seen[cell] = false;
            }
            found = 0;
            reach(nets.first[net], net);
            for (int i = 0; i < found && i < grid.cells; i++) {
                reachFrom(reached[i], net);
            }
            return seen[nets.second[net]];
        }

        private void reachFrom(int cell, int net) {
            for (int direction = 0; direction < Grid.OPPOSITE; direction++) {
                reach(grid.next(cell, direction), net);
            }
            if (layout.vias[grid.placeOf(cell)]) {
                reach(grid.next(cell, Grid.OPPOSITE), net);
            }
        }

        private void reach(int cell, int net) {
            if (cell != NONE && !seen[cell] && layout.owner[cell] == net) {
                seen[cell] = true;
                reached[found] = cell;
                found++;
            }
        }
    }

    /** The rows of cells of one net, told by their first cell. */
    private static final class Shapes {
        private static final int LAYER = 0;
        private static final int Y = 1;
        private static final int FIRST_X = 2;
        private static final int LAST_X = 3;

        private final Grid grid;
        private final Layout layout;

        Shapes(Grid grid, Layout layout) {
            this.grid = grid;
            this.layout = layout;
        }

        int count() {
            int sum = 0;
            for (int cell = 0; cell < grid.cells; cell++) {
                if (isStart(cell)) {
                    sum++;
                }
            }
            return sum;
        }

        /** The first cell of shape i, or NONE if there is no such shape. */
        int startOf(int i) {
            int before = 0;
            for (int cell = 0; cell < grid.cells; cell++) {
                if (isStart(cell)) {
                    if (before == i) {
                        return cell;
                    }
                    before++;
                }
            }
            return NONE;
        }

        int tell(int start, int what) {
            switch (what) {
                case LAYER:
                    return grid.layerOf(start);
                case Y:
                    return grid.yOf[start];
                case FIRST_X:
                    return grid.xOf[start];
                case LAST_X:
                    return lastX(start);
                default:
                    return layout.owner[start];
            }
        }

        private boolean isStart(int cell) {
            int net = layout.owner[cell];
            int left = grid.next(cell, Grid.LEFT);
            return net != NONE && (left == NONE || layout.owner[left] != net);
        }

        private int lastX(int start) {
            int x = grid.xOf[start];
            int end = start;
            while (x < grid.width - 1 && layout.owner[end + 1] == layout.owner[start]) {
                end++;
                x++;
            }
            return x;
        }
    }
}
