import java.util.NoSuchElementException;

/** Each promise of the document by answers that were worked out by hand. */
public final class PromisesTest {
    private static final Checks CHECKS = new Checks();
    private static final Class<IllegalArgumentException> ARGUMENT = IllegalArgumentException.class;
    private static final Class<IllegalStateException> STATE = IllegalStateException.class;
    private static final Class<NoSuchElementException> NO_SUCH = NoSuchElementException.class;
    private static final double[] NO_SPANS = {0.0, -0.0, -1.0, -Double.MIN_VALUE, Math.nextUp(10.0), 11.0,
        Double.NaN, Double.POSITIVE_INFINITY, Double.NEGATIVE_INFINITY};

    public static void main(String[] args) {
        promise1();
        promise2();
        promise3Wrong();
        promise3Ends();
        promise3Limiters();
        promise3Solvers();
        promise3Order();
        promise4();
        promise5Times();
        promise5Stage();
        promise5Failures();
        promise6();
        promise6Refused();
        promise7();
        promise8();
        promise9();
        promise10();
        promise11();
        CHECKS.end();
    }

    private static void level(String when, FlowGrid x, int n) {
        CHECKS.same(when + ": count(0)", x.count(0), n);
        for (int k = 0; k < n; k++) {
            CHECKS.same(when + ": depth of " + k, x.cell(k, 0), 1.0);
            CHECKS.same(when + ": momentum of " + k, x.cell(k, 1), 0.0);
        }
        CHECKS.throwsIt(when + ": cell past the last", NO_SUCH, () -> x.cell(n, 0));
        CHECKS.same(when + ": time()", x.time(), 0.0);
    }

    private static void promise1() {
        FlowGrid x = new FlowGrid();
        level("new", x, 8);
        for (int what = 1; what <= 3; what++) {
            CHECKS.same("new: count(" + what + ")", x.count(what), 0);
        }
        x.put(0, 4.0, 4.0);
        CHECKS.same("new, BROAD: flux(0, false)", x.flux(0, false), 0.5 * 4.0 - 1.5 * 3.0);
        CHECKS.same("new, RING: flux(8, false)", x.flux(8, false), x.flux(0, false));
        FlowGrid y = new FlowGrid();
        y.put(2, 1.0, 10.0);
        y.put(3, 1.0, 12.0);
        y.put(4, 1.0, 18.0);
        y.put(5, 1.0, 18.0);
        // LEAST: left is 12 + 1, right is 18; s is 18 + 1.
        CHECKS.same("new, limiter 1: flux(4, false)", y.flux(4, false),
                0.5 * (13.0 + 18.0) - 0.5 * 19.0 * 0.0);
        CHECKS.same("new, limiter 1: flux(4, true)", y.flux(4, true),
                0.5 * (169.5 + 324.5) - 0.5 * 19.0 * 5.0);
        FlowGrid z = new FlowGrid();
        z.put(3, 16.0, 0.0);
        z.step(0.0625);
        CHECKS.same("new, order 1: cell(3, 0)", z.cell(3, 0), 16.0 - 0.0625 * 60.0);
    }

    private static void promise2() {
        FlowGrid x = new FlowGrid();
        x.choose(1, 2, 1, 2);
        x.put(0, 4.0, 4.0);
        x.put(7, 16.0, -4.0);
        x.step(0.125);
        String before = Grids.all(x);
        for (int n : new int[] {3, 25, 0, -1, -4, Integer.MIN_VALUE, Integer.MAX_VALUE}) {
            CHECKS.throwsIt("cells(" + n + ")", ARGUMENT, () -> x.cells(n));
            CHECKS.same("all after cells(" + n + ")", Grids.all(x), before);
        }
        for (int n : new int[] {4, 24, 8, 5}) {
            x.cells(n);
            level("cells(" + n + ")", x, n);
            CHECKS.same("cells(" + n + "): count(1) stays", x.count(1), 1);
            x.put(n - 1, 4.0, 1.0);
            CHECKS.same("cells(" + n + "): the ends stay a WALL", x.flux(n, false), 0.0);
        }
        FlowGrid y = Grids.refusing();
        CHECKS.throwsIt("step", STATE, () -> y.step(10.0));
        y.cells(4);
        CHECKS.same("cells: count(2) stays", y.count(2), 5);
        CHECKS.same("cells: count(3) stays", y.count(3), 1);
    }

    private static void promise3Wrong() {
        FlowGrid x = Grids.grid(1, 2, 1, 2, 1.0, 3.0, 2.0, 5.0, 4.0, 1.0, 9.0, -2.0, 8.0, 4.0);
        String before = Grids.all(x);
        int[][] wrong = {{-1, 0, 0, 1}, {3, 0, 0, 1}, {0, -1, 0, 1}, {0, 4, 0, 1}, {0, 0, -1, 1},
            {0, 0, 2, 1}, {0, 0, 0, 0}, {0, 0, 0, 3}, {0, 0, 0, -1}, {Integer.MIN_VALUE, 0, 0, 1},
            {0, Integer.MAX_VALUE, 0, 1}, {0, 0, Integer.MIN_VALUE, 1}, {0, 0, 0, Integer.MAX_VALUE}};
        for (int[] w : wrong) {
            String call = "choose(" + w[0] + ", " + w[1] + ", " + w[2] + ", " + w[3] + ")";
            CHECKS.throwsIt(call, ARGUMENT, () -> x.choose(w[0], w[1], w[2], w[3]));
            CHECKS.same("all after " + call, Grids.all(x), before);
        }
        for (int k = 0; k < 48; k++) {
            x.choose(k % 3, k / 3 % 4, k / 12 % 2, 1 + k / 24);
            CHECKS.same("a choice leaves the cells", x.cell(1, 1), 5.0);
        }
    }

    private static void promise3Ends() {
        // All flows fast to the right, so NARROW takes the left state: m plus half its slope.
        FlowGrid ring = Grids.shallow(0, 1, 1, 18.0, 5.0, 10.0, 12.0);
        CHECKS.same("RING: flux(0, false)", ring.flux(0, false), 13.0);
        CHECKS.same("RING: flux(4, false)", ring.flux(4, false), 13.0);
        // And fast to the left: m of the right state, less half its slope.
        FlowGrid back = Grids.shallow(0, 1, 1, -12.0, -10.0, -5.0, -18.0);
        CHECKS.same("RING, leftward: flux(4, false)", back.flux(4, false), -13.0);
        CHECKS.same("RING, leftward: flux(0, false)", back.flux(0, false), -13.0);
        // Beyond the WALL stand -1.5 and -1 (and -1 and -3): the slopes there are 0.5 and -2.
        FlowGrid wall = Grids.shallow(1, 1, 0, 1.0, 1.5, 3.0, 1.0);
        CHECKS.same("WALL: flux(0, false)", wall.flux(0, false), 0.0);
        CHECKS.same("WALL: flux(0, true)", wall.flux(0, true), 1.0625 - 0.5 * 1.75 * 1.5);
        CHECKS.same("WALL: flux(4, false)", wall.flux(4, false), 0.0);
        CHECKS.same("WALL: flux(4, true)", wall.flux(4, true), 0.5);
        FlowGrid bare = Grids.shallow(1, 0, 0, 1.0, 1.5, 3.0, 2.0);
        CHECKS.same("WALL, no slopes: flux(0, true)", bare.flux(0, true), 1.5 - 0.5 * 2.0 * 2.0);
        CHECKS.same("WALL, no slopes: flux(4, true)", bare.flux(4, true), 4.5 + 0.5 * 3.0 * 4.0);
        FlowGrid open = Grids.shallow(2, 2, 1, 10.0, 12.0, 14.0, 16.0);
        CHECKS.same("OPEN: flux(0, false)", open.flux(0, false), 10.0);
        CHECKS.same("OPEN: flux(0, true)", open.flux(0, true), 100.5);
        CHECKS.same("OPEN: flux(4, false)", open.flux(4, false), 16.0);
        CHECKS.same("OPEN: flux(4, true)", open.flux(4, true), 256.5);
    }

    private static void promise3Limiters() {
        double[] slopes = {0.0, 2.0, 4.0, 3.0};
        for (int limiter = 0; limiter <= 3; limiter++) {
            String name = "limiter " + limiter;
            double half = 0.5 * slopes[limiter];
            CHECKS.same(name + ", a 2, b 6",
                    Grids.shallow(2, limiter, 1, 10.0, 10.0, 12.0, 18.0, 18.0).flux(3, false), 12.0 + half);
            CHECKS.same(name + ", a 6, b 2",
                    Grids.shallow(2, limiter, 1, 4.0, 4.0, 10.0, 12.0, 12.0).flux(3, false), 10.0 + half);
            CHECKS.same(name + ", a -2, b -6",
                    Grids.shallow(2, limiter, 1, 18.0, 18.0, 16.0, 10.0, 10.0).flux(3, false), 16.0 - half);
            CHECKS.same(name + ", a -6, b -2",
                    Grids.shallow(2, limiter, 1, 18.0, 18.0, 12.0, 10.0, 10.0).flux(3, false), 12.0 - half);
            CHECKS.same(name + ", a 4, b 4", Grids.shallow(2, limiter, 1, 8.0, 8.0, 12.0, 16.0, 16.0)
                    .flux(3, false), limiter == 0 ? 12.0 : 14.0);
            CHECKS.same(name + ", a 4, b -4",
                    Grids.shallow(2, limiter, 1, 8.0, 8.0, 12.0, 8.0, 8.0).flux(3, false), 12.0);
            CHECKS.same(name + ", a 0, b 4",
                    Grids.shallow(2, limiter, 1, 8.0, 8.0, 8.0, 12.0, 12.0).flux(3, false), 8.0);
            CHECKS.same(name + ", a 4, b 0",
                    Grids.shallow(2, limiter, 1, 8.0, 8.0, 12.0, 12.0, 12.0).flux(3, false), 12.0);
            // The depths' slopes: leftward, the right state is 4 less half of it, m is -32.
            double h = 4.0 - half;
            CHECKS.same(name + ", depths", Grids.grid(2, limiter, 1, 1, 2.0, -32.0, 2.0, -32.0, 4.0, -32.0,
                    10.0, -32.0, 10.0, -32.0).flux(2, true), -32.0 * (-32.0 / h) + 0.5 * h * h);
            // And rightward, the left state is 4 and half of it more.
            double k = 4.0 + half;
            CHECKS.same(name + ", depths, rightward", Grids.grid(2, limiter, 1, 1, 2.0, 32.0, 2.0, 32.0, 4.0, 32.0,
                    10.0, 32.0, 10.0, 32.0).flux(3, true), 32.0 * (32.0 / k) + 0.5 * k * k);
        }
    }

    private static void promise3Solvers() {
        double[] states = {1.0, 0.0, 1.0, 0.0, 4.0, 4.0, 4.0, 4.0};
        FlowGrid broad = Grids.grid(2, 0, 0, 1, states);
        // s is 3; the fluxes of m are 0.5 and 4 + 8.
        CHECKS.same("BROAD: flux(2, false)", broad.flux(2, false), 2.0 - 1.5 * 3.0);
        CHECKS.same("BROAD: flux(2, true)", broad.flux(2, true), 6.25 - 1.5 * 4.0);
        FlowGrid narrow = Grids.grid(2, 0, 1, 1, states);
        // x is -1, y is 3.
        CHECKS.same("NARROW: flux(2, false)", narrow.flux(2, false), (4.0 - 9.0) / 4.0);
        CHECKS.same("NARROW: flux(2, true)", narrow.flux(2, true), (1.5 + 12.0 - 12.0) / 4.0);
        FlowGrid falling = Grids.grid(2, 0, 1, 1, 4.0, 4.0, 4.0, 4.0, 1.0, 0.0, 1.0, 0.0);
        // x is -1 of the right state, y is 3 of the left one.
        CHECKS.same("NARROW, falling: flux(2, false)", falling.flux(2, false), (12.0 + 9.0) / 4.0);
        CHECKS.same("NARROW, falling: flux(2, true)", falling.flux(2, true), (36.0 + 0.5 + 12.0) / 4.0);
        FlowGrid against = Grids.grid(2, 0, 1, 1, 4.0, -4.0, 4.0, -4.0, 1.0, 1.0, 1.0, 1.0);
        // x is -3 of the left state, y is 2 of the right one.
        CHECKS.same("NARROW, against: flux(2, false)", against.flux(2, false), (-8.0 + 3.0 + 18.0) / 5.0);
        CHECKS.same("NARROW, against: flux(2, true)", against.flux(2, true), (24.0 + 4.5 - 30.0) / 5.0);
        // x is exactly 0.0: the left flux; y exactly 0.0: the right one.
        FlowGrid right = Grids.shallow(2, 0, 1, 1.0, 1.0, 2.0, 2.0);
        CHECKS.same("NARROW, x 0: flux(2, false)", right.flux(2, false), 1.0);
        CHECKS.same("NARROW, x 0: flux(2, true)", right.flux(2, true), 1.5);
        FlowGrid left = Grids.shallow(2, 0, 1, -2.0, -2.0, -1.0, -1.0);
        CHECKS.same("NARROW, y 0: flux(2, false)", left.flux(2, false), -1.0);
        CHECKS.same("NARROW, y 0: flux(2, true)", left.flux(2, true), 1.5);
        // BROAD takes the greater |u| + c, also where u is below 0.0.
        FlowGrid turned = Grids.grid(2, 0, 0, 1, 4.0, -4.0, 4.0, -4.0, 1.0, 0.0, 1.0, 0.0);
        CHECKS.same("BROAD, leftward: flux(2, false)", turned.flux(2, false), -2.0 + 1.5 * 3.0);
        CHECKS.same("BROAD, leftward: flux(2, true)", turned.flux(2, true), 6.25 - 1.5 * 4.0);
    }

    private static void promise3Order() {
        double[] states = {1.0, 0.0, 2.0, 1.0, 4.0, 3.0, 9.0, -2.0, 5.0, -1.0, 1.5, 0.5};
        for (int k = 0; k < 24; k++) {
            FlowGrid once = Grids.grid(k % 3, k / 3 % 4, k / 12, 2, states);
            FlowGrid twice = Grids.grid(k % 3, k / 3 % 4, k / 12, 1, states);
            CHECKS.same("order 2: step", once.step(0.03125), 0.03125);
            CHECKS.same("order 2: time()", once.time(), 0.03125);
            CHECKS.same("order 2: count(1)", once.count(1), 1);
            twice.step(0.03125);
            twice.step(0.03125);
            for (int c = 0; c < 6; c++) {
                CHECKS.same("order 2: depth of " + c, once.cell(c, 0),
                        0.5 * (states[2 * c] + twice.cell(c, 0)));
                CHECKS.same("order 2: momentum of " + c, once.cell(c, 1),
                        0.5 * (states[2 * c + 1] + twice.cell(c, 1)));
            }
        }
    }

    private static void promise4() {
        FlowGrid x = new FlowGrid();
        double[][] fine = {{0.125, -50.0}, {0.125, 50.0}, {20.0, -50.0}, {20.0, 50.0}, {3.7, 0.0}};
        for (int k : new int[] {0, 3, 7}) {
            for (double[] f : fine) {
                x.put(k, f[0], f[1]);
                CHECKS.same("put: depth", x.cell(k, 0), f[0]);
                CHECKS.same("put: momentum", x.cell(k, 1), f[1]);
            }
        }
        CHECKS.same("put: the others stay", x.cell(1, 0), 1.0);
        CHECKS.same("put: the others stay", x.cell(6, 1), 0.0);
        String before = Grids.all(x);
        double[][] wrong = {{Math.nextDown(0.125), 0.0}, {0.0, 0.0}, {-1.0, 0.0}, {Math.nextUp(20.0), 0.0},
            {Double.NaN, 0.0}, {Double.POSITIVE_INFINITY, 0.0}, {Double.NEGATIVE_INFINITY, 0.0},
            {1.0, Math.nextUp(50.0)}, {1.0, Math.nextDown(-50.0)}, {1.0, Double.NaN},
            {1.0, Double.POSITIVE_INFINITY}, {1.0, Double.NEGATIVE_INFINITY}};
        for (double[] w : wrong) {
            CHECKS.throwsIt("put(0, " + w[0] + ", " + w[1] + ")", ARGUMENT, () -> x.put(0, w[0], w[1]));
        }
        for (int k : new int[] {-1, 8, 9, 24, Integer.MIN_VALUE, Integer.MAX_VALUE}) {
            CHECKS.throwsIt("put(" + k + ", 1.0, 0.0)", ARGUMENT, () -> x.put(k, 1.0, 0.0));
        }
        CHECKS.same("all after wrong puts", Grids.all(x), before);
    }

    private static void promise5Times() {
        FlowGrid x = new FlowGrid();
        for (double most : NO_SPANS) {
            CHECKS.throwsIt("step(" + most + ")", ARGUMENT, () -> x.step(most));
        }
        CHECKS.same("no step: count(1)", x.count(1), 0);
        CHECKS.same("step(10.0)", x.step(10.0), 0.4);
        CHECKS.same("step(0.25)", x.step(0.25), 0.25);
        CHECKS.same("step(MIN_VALUE)", x.step(Double.MIN_VALUE), Double.MIN_VALUE);
        // The greatest |u| + c is that of any one cell, first and last too.
        for (int k : new int[] {0, 3, 7}) {
            FlowGrid y = new FlowGrid();
            y.put(k, 4.0, -12.0);
            CHECKS.same("step with a fast cell " + k, y.step(10.0), 0.4 / 5.0);
        }
        FlowGrid z = new FlowGrid();
        z.put(2, 16.0, 0.0);
        CHECKS.same("step just below the limit", z.step(0.0999), 0.0999);
    }

    private static void promise5Stage() {
        // Fast to the right: the flux of each face is that of the cell before it.
        FlowGrid x = Grids.shallow(2, 0, 1, 8.0, 8.0, 16.0, 16.0);
        CHECKS.same("stage: step", x.step(0.015625), 0.015625);
        CHECKS.same("stage: depth of 1", x.cell(1, 0), 1.0);
        CHECKS.same("stage: momentum of 1", x.cell(1, 1), 8.0);
        CHECKS.same("stage: depth of 2", x.cell(2, 0), 1.0 - 0.015625 * (16.0 - 8.0));
        CHECKS.same("stage: momentum of 2", x.cell(2, 1), 16.0 - 0.015625 * (256.5 - 64.5));
        CHECKS.same("stage: depth of 3", x.cell(3, 0), 1.0);
        CHECKS.same("stage: momentum of 3", x.cell(3, 1), 16.0);
    }

    private static void promise5Failures() {
        FlowGrid once = Grids.grid(2, 2, 0, 2, 4.0, 20.0, 0.5, 0.0, 20.0, -50.0, 20.0, -40.0);
        CHECKS.same("one failure: step", once.step(10.0), 0.4 / 7.0 * 0.5);
        CHECKS.same("one failure: count(2)", once.count(2), 1);
        CHECKS.same("one failure: time()", once.time(), 0.4 / 7.0 * 0.5);
        FlowGrid four = Grids.stubborn();
        FlowGrid direct = Grids.stubborn();
        CHECKS.same("four failures: step", four.step(10.0), 0.4 / 12.0 / 16.0);
        CHECKS.same("four failures: count(1)", four.count(1), 1);
        CHECKS.same("four failures: count(2)", four.count(2), 4);
        CHECKS.same("four failures: count(3)", four.count(3), 0);
        direct.step(0.4 / 12.0 / 16.0);
        CHECKS.same("no failure: count(2)", direct.count(2), 0);
        for (int k = 0; k < 4; k++) {
            CHECKS.same("as if never failed: depth of " + k, four.cell(k, 0), direct.cell(k, 0));
            CHECKS.same("as if never failed: momentum of " + k, four.cell(k, 1), direct.cell(k, 1));
        }
        FlowGrid x = Grids.refusing();
        String before = Grids.all(x).replace("0.0 0 0 0", "");
        CHECKS.throwsIt("refused: step(10.0)", STATE, () -> x.step(10.0));
        CHECKS.same("all after a refused step", Grids.all(x).replace("0.0 0 5 1", ""), before);
        CHECKS.throwsIt("refused again: step(10.0)", STATE, () -> x.step(10.0));
        CHECKS.same("all after two refused steps", Grids.all(x).replace("0.0 0 10 2", ""), before);
        CHECKS.throwsIt("a wrong time comes first", ARGUMENT, () -> x.step(0.0));
    }

    private static void promise6() {
        FlowGrid x = new FlowGrid();
        for (double time : NO_SPANS) {
            CHECKS.throwsIt("run(" + time + ")", ARGUMENT, () -> x.run(time));
        }
        CHECKS.same("no run: count(1)", x.count(1), 0);
        CHECKS.same("run(1.0)", x.run(1.0), 3);
        CHECKS.same("run(1.0): time()", x.time(), 0.4 + 0.4 + (1.0 - 0.4 - 0.4));
        CHECKS.same("run(1.0): count(1)", x.count(1), 3);
        x.cells(8);
        CHECKS.same("run(0.8)", x.run(0.8), 2);
        CHECKS.same("run(0.8005)", x.run(0.8005), 2);
        CHECKS.same("run(0.8005): time()", x.time(), 0.4 + 0.4 + 0.4 + 0.4);
        CHECKS.same("run(0.802)", x.run(0.802), 3);
        CHECKS.same("run(10.0)", x.run(10.0), 25);
        x.cells(8);
        CHECKS.same("run(0.001)", x.run(0.001), 1);
        CHECKS.same("run(0.001): time()", x.time(), 0.001);
        CHECKS.same("run just below 0.001", x.run(Math.nextDown(0.001)), 0);
        CHECKS.same("run just below 0.001: time()", x.time(), 0.001);
        FlowGrid fast = Grids.grid(0, 1, 0, 1, 0.25, 50.0, 0.25, 50.0, 0.25, 50.0, 0.25, 50.0);
        CHECKS.same("run at 40", fast.run(10.0), 40);
        CHECKS.same("run at 40: count(1)", fast.count(1), 40);
        CHECKS.same("run at 40: depth", fast.cell(2, 0), 0.25);
    }

    private static void promise6Refused() {
        FlowGrid run = Grids.stubborn();
        FlowGrid single = Grids.stubborn();
        single.step(10.0);
        String before = Grids.all(single).replace(" 1 4 0", "");
        CHECKS.throwsIt("run with a refused step", STATE, () -> run.run(10.0));
        CHECKS.same("all after a refused run", Grids.all(run).replace(" 1 9 1", ""), before);
    }

    private static void promise7() {
        FlowGrid x = new FlowGrid();
        x.put(7, 16.0, -8.0);
        x.put(0, 0.25, 2.0);
        CHECKS.same("cell(7, 0)", x.cell(7, 0), 16.0);
        CHECKS.same("cell(7, 1)", x.cell(7, 1), -8.0);
        CHECKS.same("cell(7, 2)", x.cell(7, 2), -0.5);
        CHECKS.same("cell(7, 3)", x.cell(7, 3), 4.0);
        CHECKS.same("cell(0, 2)", x.cell(0, 2), 8.0);
        CHECKS.same("cell(0, 3)", x.cell(0, 3), 0.5);
        for (double h : new double[] {0.125, 0.5, 0.99, 1.0, 1.01, 2.0, 7.3, 20.0}) {
            x.put(3, h, 1.0);
            CHECKS.same("wave of " + h, x.cell(3, 3), Model.root(h));
            CHECKS.holds("wave of " + h + " near its root",
                    Math.abs(x.cell(3, 3) - Math.sqrt(h)) < 1e-15 * 8);
        }
        int[][] wrong = {{-1, 0}, {8, 0}, {0, -1}, {0, 4}, {8, 4}, {Integer.MIN_VALUE, 0},
            {Integer.MAX_VALUE, 3}, {0, Integer.MIN_VALUE}, {0, Integer.MAX_VALUE}};
        for (int[] w : wrong) {
            CHECKS.throwsIt("cell(" + w[0] + ", " + w[1] + ")", NO_SUCH, () -> x.cell(w[0], w[1]));
        }
    }

    private static void promise8() {
        FlowGrid x = new FlowGrid();
        x.put(3, 16.0, 0.0);
        CHECKS.same("flux(3, false)", x.flux(3, false), -30.0);
        CHECKS.same("flux(3, true)", x.flux(3, true), 64.25);
        CHECKS.same("flux(4, false)", x.flux(4, false), 30.0);
        CHECKS.same("flux(0, true)", x.flux(0, true), 0.5);
        x.put(3, 1.0, 0.0);
        CHECKS.same("flux(3, false) as all is now", x.flux(3, false), 0.0);
        for (int face : new int[] {-1, 9, 25, Integer.MIN_VALUE, Integer.MAX_VALUE}) {
            CHECKS.throwsIt("flux(" + face + ", false)", NO_SUCH, () -> x.flux(face, false));
            CHECKS.throwsIt("flux(" + face + ", true)", NO_SUCH, () -> x.flux(face, true));
        }
        x.cells(24);
        CHECKS.same("flux(24, true)", x.flux(24, true), 0.5);
        CHECKS.throwsIt("flux(25, true)", NO_SUCH, () -> x.flux(25, true));
        x.cells(4);
        CHECKS.throwsIt("flux(5, true)", NO_SUCH, () -> x.flux(5, true));
    }

    private static void promise9() {
        FlowGrid x = new FlowGrid();
        x.cells(10);
        CHECKS.same("sum(false) of a new row", x.sum(false), 10.0);
        CHECKS.same("sum(true) of a new row", x.sum(true), 0.0);
        for (int k = 0; k < 10; k++) {
            x.put(k, 0.3, 0.1);
        }
        // Without the correction these would be 2.9999999999999996 and 0.9999999999999999.
        CHECKS.same("sum(false)", x.sum(false), 3.0);
        CHECKS.same("sum(true)", x.sum(true), 1.0);
        x.flux(0, false);
        CHECKS.same("sum(false) after flux", x.sum(false), 3.0);
    }

    private static void promise10() {
        FlowGrid x = new FlowGrid();
        CHECKS.same("time() when new", x.time(), 0.0);
        x.step(0.1);
        x.step(0.2);
        x.step(0.3);
        CHECKS.same("time() after three steps", x.time(), 0.1 + 0.2 + 0.3);
        x.put(0, 2.0, 0.0);
        x.choose(1, 1, 1, 1);
        CHECKS.same("time() after put and choose", x.time(), 0.1 + 0.2 + 0.3);
        x.cells(8);
        CHECKS.same("time() after cells", x.time(), 0.0);
        FlowGrid y = Grids.refusing();
        CHECKS.throwsIt("step", STATE, () -> y.step(10.0));
        CHECKS.same("time() after a refused step", y.time(), 0.0);
    }

    private static void promise11() {
        FlowGrid x = Grids.stubborn();
        CHECKS.same("count(0)", x.count(0), 4);
        x.step(10.0);
        CHECKS.throwsIt("second step", STATE, () -> x.step(10.0));
        CHECKS.same("count(1)", x.count(1), 1);
        CHECKS.same("count(2)", x.count(2), 9);
        CHECKS.same("count(3)", x.count(3), 1);
        x.cells(24);
        x.run(0.8);
        CHECKS.same("count(0) after cells", x.count(0), 24);
        CHECKS.same("count(1) all together", x.count(1), 3);
        CHECKS.same("count(2) all together", x.count(2), 9);
        CHECKS.same("count(3) all together", x.count(3), 1);
        for (int what : new int[] {-1, 4, 5, Integer.MIN_VALUE, Integer.MAX_VALUE}) {
            CHECKS.throwsIt("count(" + what + ")", NO_SUCH, () -> x.count(what));
        }
    }
}
