import java.util.function.Consumer;
import java.util.function.Supplier;

/** Gathers the answers of one test that are not the ones due. */
final class Due {
    private int wrong = 0;

    void is(String call, long got, long want) {
        if (got != want) {
            report(call + " answered " + got + ", due is " + want);
        }
    }

    void is(String call, boolean got, boolean want) {
        if (got != want) {
            report(call + " answered " + got + ", due is " + want);
        }
    }

    void is(String call, String got, String want) {
        if (!got.equals(want)) {
            report(call + " answered\n" + got + "due is\n" + want);
        }
    }

    /** The class must be the very one: a subclass would be the library's own throw. */
    void fails(String call, Class<? extends RuntimeException> want, Runnable run) {
        try {
            run.run();
        } catch (RuntimeException e) {
            if (e.getClass() != want) {
                report(call + " threw " + e.getClass().getName() + ", due is " + want.getName());
            }
            return;
        }
        report(call + " threw nothing, due is " + want.getName());
    }

    /** A refused call throws and changes nothing; made anew each time, since 512 calls are all of an object. */
    void refuses(String call, Class<? extends RuntimeException> want, Supplier<GridRouter> made,
            Consumer<GridRouter> run) {
        GridRouter router = made.get();
        String before = State.of(router);
        fails(call, want, () -> run.accept(router));
        is("the state after " + call, State.of(router), before);
    }

    /** Both layers, row by row: a cell's net or '.', then a via's place as '#'. */
    void picture(String when, GridRouter router, int width, int height, String... rows) {
        StringBuilder want = new StringBuilder();
        for (String row : rows) {
            want.append(row).append('\n');
        }
        is(when, draw(router, width, height), want.toString());
    }

    static String draw(GridRouter router, int width, int height) {
        StringBuilder drawn = new StringBuilder();
        for (int y = 0; y < height; y++) {
            for (int layer = 0; layer < 2; layer++) {
                for (int x = 0; x < width; x++) {
                    int net = router.cell(layer, x, y);
                    drawn.append(net == -1 ? "." : Integer.toString(net));
                }
                drawn.append(' ');
            }
            for (int x = 0; x < width; x++) {
                drawn.append(router.via(x, y) ? '#' : '.');
            }
            drawn.append('\n');
        }
        return drawn.toString();
    }

    void report(String text) {
        wrong++;
        System.out.println(text);
    }

    void end() {
        System.out.println(wrong == 0 ? "all answers are as due" : wrong + " answers are not as due");
        if (wrong != 0) {
            System.exit(1);
        }
    }
}
