import java.util.ArrayList;
import java.util.List;
import java.util.Random;
import java.util.function.IntSupplier;

/** All promises: runs of calls drawn from fixed seeds, each answer held against PlainModel. */
public final class ModelTest {
    private static final Due due = new Due();
    private static final int RUNS = 4000;
    private static final int MOST_REPORTS = 5;
    private static final int[] WILD = {-2, -1, 10, Integer.MIN_VALUE, Integer.MAX_VALUE};

    private final Random random;
    private final GridRouter router;
    private final PlainModel model;
    private final List<String> calls = new ArrayList<>();
    private boolean agrees = true;

    private ModelTest(int seed) {
        random = new Random(seed);
        int size = random.nextInt(3);
        int w = size == 0 ? random.nextInt(2) : size == 1 ? random.nextInt(4) : random.nextInt();
        int h = size == 0 ? 0 : size == 1 ? random.nextInt(4) : random.nextInt();
        int via = random.nextInt();
        int far = random.nextInt();
        calls.add("new GridRouter(" + w + ", " + h + ", " + via + ", " + far + ")");
        router = new GridRouter(w, h, via, far);
        model = new PlainModel(w, h, via, far);
    }

    public static void main(String[] args) {
        int reports = 0;
        for (int seed = 0; seed < RUNS && reports < MOST_REPORTS; seed++) {
            ModelTest test = new ModelTest(seed);
            test.run();
            if (!test.agrees) {
                reports++;
            }
        }
        due.end();
    }

    private void run() {
        int nets = random.nextInt(8);
        for (int i = 0; i < nets && agrees; i++) {
            callNet();
        }
        int length = random.nextInt(90);
        for (int i = 0; i < length && agrees; i++) {
            call();
        }
        compareLayouts();
    }

    private void call() {
        switch (random.nextInt(16)) {
            case 0 -> callNet();
            case 1, 2 -> {
                int layer = layer(), x = x(), y = y();
                same("block(" + layer + ", " + x + ", " + y + ")",
                        () -> number(router.block(layer, x, y)), () -> number(model.block(layer, x, y)));
            }
            case 3, 4 -> {
                int net = net();
                same("route(" + net + ")", () -> router.route(net), () -> model.route(net));
            }
            case 5, 6 -> {
                int net = net();
                same("push(" + net + ")", () -> router.push(net), () -> model.push(net));
            }
            case 7 -> {
                boolean sorted = random.nextBoolean();
                int pushes = random.nextInt(24) - 1;
                same("all(" + sorted + ", " + pushes + ")",
                        () -> router.all(sorted, pushes), () -> model.all(sorted, pushes));
            }
            case 8 -> {
                int net = net();
                same("rip(" + net + ")", () -> done(() -> router.rip(net)), () -> done(() -> model.rip(net)));
            }
            case 9, 10 -> {
                int layer = layer(), x = x(), y = y(), net = net();
                same("paint(" + layer + ", " + x + ", " + y + ", " + net + ")",
                        () -> done(() -> router.paint(layer, x, y, net)),
                        () -> done(() -> model.paint(layer, x, y, net)));
            }
            case 11 -> {
                int x = x(), y = y();
                same("stitch(" + x + ", " + y + ")",
                        () -> number(router.stitch(x, y)), () -> number(model.stitch(x, y)));
            }
            case 12 -> {
                int layer = layer(), x = x(), y = y();
                same("cell(" + layer + ", " + x + ", " + y + ")",
                        () -> router.cell(layer, x, y), () -> model.cell(layer, x, y));
            }
            case 13 -> {
                int x = x(), y = y();
                same("via(" + x + ", " + y + ")",
                        () -> number(router.via(x, y)), () -> number(model.via(x, y)));
            }
            case 14 -> {
                int kind = random.nextInt(6) - 1;
                same("faults(" + kind + ")", () -> router.faults(kind), () -> model.faults(kind));
            }
            default -> {
                int i = random.nextInt(20) - 1;
                int what = random.nextInt(7) - 1;
                same("shape(" + i + ", " + what + ")", () -> router.shape(i, what), () -> model.shape(i, what));
            }
        }
    }

    private void callNet() {
        int layer1 = layer(), x1 = x(), y1 = y(), layer2 = layer(), x2 = x(), y2 = y();
        same("net(" + layer1 + ", " + x1 + ", " + y1 + ", " + layer2 + ", " + x2 + ", " + y2 + ")",
                () -> router.net(layer1, x1, y1, layer2, x2, y2),
                () -> model.net(layer1, x1, y1, layer2, x2, y2));
    }

    private void compareLayouts() {
        for (int y = 0; y < model.height(); y++) {
            for (int x = 0; x < model.width(); x++) {
                int atX = x;
                int atY = y;
                same("cell(0, " + x + ", " + y + ")", () -> router.cell(0, atX, atY), () -> model.cell(0, atX, atY));
                same("cell(1, " + x + ", " + y + ")", () -> router.cell(1, atX, atY), () -> model.cell(1, atX, atY));
                same("via(" + x + ", " + y + ")",
                        () -> number(router.via(atX, atY)), () -> number(model.via(atX, atY)));
            }
        }
        for (int kind = 0; kind < 4; kind++) {
            int one = kind;
            same("faults(" + kind + ")", () -> router.faults(one), () -> model.faults(one));
        }
        same("shapes()", router::shapes, model::shapes);
    }

    private void same(String call, IntSupplier asked, IntSupplier wanted) {
        if (!agrees) {
            return;
        }
        String got = answer(asked);
        String want = answer(wanted);
        calls.add(call + " " + want);
        if (!got.equals(want)) {
            agrees = false;
            due.report(String.join("\n", calls) + "\nanswered " + got + ", due is " + want);
        }
    }

    private static String answer(IntSupplier call) {
        try {
            return Integer.toString(call.getAsInt());
        } catch (RuntimeException e) {
            return "throws " + e.getClass().getName();
        }
    }

    private static int done(Runnable call) {
        call.run();
        return 0;
    }

    private static int number(boolean answer) {
        return answer ? 1 : 0;
    }

    private boolean isWild() {
        return random.nextInt(60) == 0;
    }

    private int wild() {
        return WILD[random.nextInt(WILD.length)];
    }

    private int layer() {
        return isWild() ? wild() : random.nextInt(2);
    }

    private int x() {
        return isWild() ? wild() : random.nextInt(model.width());
    }

    private int y() {
        return isWild() ? wild() : random.nextInt(model.height());
    }

    private int net() {
        return isWild() ? wild() : random.nextInt(7) - 1;
    }
}
