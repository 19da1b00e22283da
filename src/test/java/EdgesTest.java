import java.util.NoSuchElementException;

/** The boundary cases that the promises name: too small, too large, full, at the end, refused. */
public final class EdgesTest {
    private static final Checks CHECKS = new Checks();
    private static final Class<IllegalArgumentException> ARGUMENT = IllegalArgumentException.class;
    private static final Class<IllegalStateException> STATE = IllegalStateException.class;
    private static final Class<NoSuchElementException> NO_SUCH = NoSuchElementException.class;
    private static final double[] SOME = {1.0, 3.0, 2.0, 5.0, 4.0, 1.0, 9.0, -2.0, 8.0, 4.0, 3.0, -6.0, 1.5, 2.0,
        2.5, 2.5};

    public static void main(String[] args) {
        promise1Alone();
        promise2KeepsChoices();
        promise2FullAndBack();
        promise2Refused();
        promise3Edges();
        promise3Refused();
        promise4LastCell();
        promise4Refused();
        promise5RefusedStep();
        promise5WrongTime();
        promise6At40();
        promise6BelowTheEnd();
        promise6HalvedSteps();
        promise6Refused();
        promise7LastCell();
        promise8LastFace();
        promise8AsAllIsNow();
        promise9FromCell0On();
        promise9FewestAndMost();
        promise10OnlySteps();
        promise11Edges();
        lastCall();
        CHECKS.end();
    }

    private static void fill(FlowGrid x) {
        for (int k = 0; k < x.count(0); k++) {
            x.put(k, SOME[2 * k % SOME.length], SOME[(2 * k + 1) % SOME.length]);
        }
    }

    private static FlowGrid chosen(int k) {
        FlowGrid x = new FlowGrid();
        x.choose(k % 3, k / 3 % 4, k / 12 % 2, 1 + k / 24);
        return x;
    }

    private static void promise1Alone() {
        FlowGrid x = new FlowGrid();
        FlowGrid y = new FlowGrid();
        String before = Grids.all(y);
        x.cells(8);
        x.choose(1, 2, 1, 2);
        fill(x);
        x.step(0.0625);
        CHECKS.same("a new object is its own", Grids.all(y), before);
        CHECKS.same("a later new object", Grids.all(new FlowGrid()), before);
    }

    private static void promise2KeepsChoices() {
        for (int k = 0; k < 48; k++) {
            FlowGrid x = chosen(k);
            FlowGrid y = chosen(k);
            fill(x);
            x.step(0.0625);
            x.cells(8);
            fill(x);
            fill(y);
            x.step(0.03125);
            y.step(0.03125);
            CHECKS.same("cells keeps choice " + k, Grids.water(x), Grids.water(y));
            CHECKS.same("cells keeps choice " + k + ": time()", x.time(), y.time());
            CHECKS.same("cells keeps count(1)", x.count(1), 2);
        }
    }

    private static void promise2FullAndBack() {
        FlowGrid x = new FlowGrid();
        FlowGrid y = new FlowGrid();
        for (int n : new int[] {24, 4, 24, 23, 5}) {
            x.cells(n);
            y.cells(n);
            CHECKS.same("cells(" + n + ") once more", Grids.water(x), Grids.water(y));
            CHECKS.same("cells(" + n + "): sum(false)", x.sum(false), n);
            CHECKS.same("cells(" + n + "): sum(true)", x.sum(true), 0.0);
            fill(x);
            x.flux(n, true);
            x.step(0.0625);
        }
    }

    // Two steps on, two objects are alike only if the order is too.
    private static void sameLater(String what, FlowGrid x, FlowGrid y) {
        CHECKS.same(what + ", now", Grids.all(x), Grids.all(y));
        CHECKS.same(what + ": step", x.step(0.03125), y.step(0.03125));
        CHECKS.same(what + ": step again", x.step(10.0), y.step(10.0));
        CHECKS.same(what + ", later", Grids.all(x), Grids.all(y));
    }

    private static void promise2Refused() {
        for (int n : new int[] {3, 25, 0, -4, Integer.MIN_VALUE, Integer.MAX_VALUE}) {
            FlowGrid x = chosen(43);
            FlowGrid y = chosen(43);
            fill(x);
            fill(y);
            x.step(0.0625);
            y.step(0.0625);
            CHECKS.throwsIt("cells(" + n + ")", ARGUMENT, () -> x.cells(n));
            sameLater("after cells(" + n + ")", x, y);
        }
    }

    private static void promise3Edges() {
        FlowGrid x = new FlowGrid();
        FlowGrid y = new FlowGrid();
        fill(x);
        fill(y);
        x.choose(2, 3, 1, 2);
        x.choose(0, 0, 0, 1);
        y.choose(0, 0, 0, 1);
        sameLater("the last choice holds", x, y);
        x.choose(2, 3, 1, 2);
        y.choose(2, 3, 1, 2);
        sameLater("the greatest choices", x, y);
    }

    private static void promise3Refused() {
        // In each, all but one would be fine and other than what has been chosen before: 1, 3, 1, 2.
        int[][] wrong = {{3, 0, 0, 1}, {-1, 0, 0, 1}, {0, 4, 0, 1}, {0, -1, 0, 1}, {0, 0, 2, 1}, {0, 0, -1, 1},
            {0, 0, 0, 3}, {0, 0, 0, 0}, {2, 2, 0, 3}, {Integer.MAX_VALUE, 0, 0, 1}, {0, Integer.MIN_VALUE, 0, 1},
            {0, 0, Integer.MAX_VALUE, 1}, {0, 0, 0, Integer.MIN_VALUE}};
        for (int[] w : wrong) {
            FlowGrid x = Grids.grid(1, 3, 1, 2, SOME);
            FlowGrid y = Grids.grid(1, 3, 1, 2, SOME);
            String call = "choose(" + w[0] + ", " + w[1] + ", " + w[2] + ", " + w[3] + ")";
            CHECKS.throwsIt(call, ARGUMENT, () -> x.choose(w[0], w[1], w[2], w[3]));
            sameLater("after " + call, x, y);
            FlowGrid z = new FlowGrid();
            FlowGrid fresh = new FlowGrid();
            CHECKS.throwsIt(call + " when new", ARGUMENT, () -> z.choose(w[0], w[1], w[2], w[3]));
            fill(z);
            fill(fresh);
            sameLater("new, after " + call, z, fresh);
        }
    }

    private static void promise4LastCell() {
        for (int n : new int[] {24, 4, 8}) {
            FlowGrid x = new FlowGrid();
            x.cells(n);
            x.put(0, 0.125, -50.0);
            x.put(n - 1, 20.0, 50.0);
            CHECKS.same("put to the first", x.cell(0, 0), 0.125);
            CHECKS.same("put to the first", x.cell(0, 1), -50.0);
            CHECKS.same("put to the last", x.cell(n - 1, 0), 20.0);
            CHECKS.same("put to the last", x.cell(n - 1, 1), 50.0);
            String before = Grids.all(x);
            CHECKS.throwsIt("put behind the last of " + n, ARGUMENT, () -> x.put(n, 1.0, 0.0));
            CHECKS.throwsIt("put before the first", ARGUMENT, () -> x.put(-1, 1.0, 0.0));
            CHECKS.same("all after such puts", Grids.all(x), before);
        }
        FlowGrid y = new FlowGrid();
        y.cells(24);
        y.cells(4);
        CHECKS.throwsIt("put to a cell that was", ARGUMENT, () -> y.put(4, 1.0, 0.0));
        y.put(0, 1.0, -0.0);
        CHECKS.same("put of -0.0", y.cell(0, 1), 0.0);
        y.step(0.125);
        y.put(0, 2.0, 1.0);
        CHECKS.same("put leaves the time", y.time(), 0.125);
        CHECKS.same("put leaves the counts", y.count(1), 1);
    }

    private static void promise4Refused() {
        double[][] wrong = {{Math.nextDown(0.125), 1.0}, {Math.nextUp(20.0), 1.0}, {2.0, Math.nextUp(50.0)},
            {2.0, Math.nextDown(-50.0)}, {0.0, 1.0}, {-0.0, 1.0}, {-2.0, 1.0}, {Double.MIN_VALUE, 1.0},
            {Double.MAX_VALUE, 1.0}, {Double.NaN, 1.0}, {2.0, Double.NaN}, {Double.NaN, Double.NaN},
            {Double.POSITIVE_INFINITY, 1.0}, {2.0, Double.POSITIVE_INFINITY}, {2.0, Double.NEGATIVE_INFINITY}};
        for (double[] w : wrong) {
            FlowGrid x = Grids.grid(1, 3, 1, 2, SOME);
            String call = "put(3, " + w[0] + ", " + w[1] + ")";
            CHECKS.throwsIt(call, ARGUMENT, () -> x.put(3, w[0], w[1]));
            sameLater("after " + call, x, Grids.grid(1, 3, 1, 2, SOME));
        }
    }

    private static void promise5RefusedStep() {
        FlowGrid x = Grids.refusing();
        String before = Grids.water(x);
        CHECKS.throwsIt("step", STATE, () -> x.step(10.0));
        CHECKS.same("a refused step leaves the water", Grids.water(x), before);
        CHECKS.same("a refused step leaves the time", x.time(), 0.0);
        CHECKS.same("a refused step is not made", x.count(1), 0);
        FlowGrid y = Grids.refusing();
        CHECKS.same("a shorter step goes on", x.step(0.001), y.step(0.001));
        CHECKS.same("as if never refused", Grids.water(x), Grids.water(y));
        CHECKS.same("as if never refused: time()", x.time(), y.time());
        CHECKS.same("but counted: count(2)", x.count(2), 5);
        CHECKS.same("but counted: count(3)", x.count(3), 1);
    }

    private static void promise5WrongTime() {
        for (double most : new double[] {0.0, -0.0, -Double.MIN_VALUE, Math.nextUp(10.0), Double.MAX_VALUE,
            Double.NaN, Double.POSITIVE_INFINITY, Double.NEGATIVE_INFINITY}) {
            FlowGrid x = Grids.refusing();
            String before = Grids.all(x);
            CHECKS.throwsIt("step(" + most + ")", ARGUMENT, () -> x.step(most));
            CHECKS.throwsIt("run(" + most + ")", ARGUMENT, () -> x.run(most));
            CHECKS.same("all after step and run of " + most, Grids.all(x), before);
        }
        FlowGrid y = Grids.grid(1, 3, 1, 2, SOME);
        String water = Grids.water(y);
        CHECKS.same("the shortest step", y.step(Double.MIN_VALUE), Double.MIN_VALUE);
        CHECKS.same("the shortest step moves nothing", Grids.water(y), water);
        CHECKS.same("the shortest step counts", y.count(1), 1);
        CHECKS.same("the shortest step's time", y.time(), Double.MIN_VALUE);
    }

    private static FlowGrid still(double depth) {
        return Grids.grid(0, 1, 0, 1, depth, 0.0, depth, 0.0, depth, 0.0, depth, 0.0);
    }

    private static void promise6At40() {
        // The wave is 1.6, a step 0.25.
        FlowGrid x = still(2.56);
        CHECKS.same("40 steps are enough", x.run(10.0), 40);
        CHECKS.same("40 steps are enough: time()", x.time(), 10.0);
        FlowGrid z = still(2.56);
        CHECKS.same("39 steps are enough", z.run(9.75), 39);
        FlowGrid y = still(2.6);
        double took = still(2.6).step(10.0);
        CHECKS.same("40 steps are too few", y.run(10.0), 40);
        CHECKS.holds("40 steps are too few: time()", y.time() < 40.5 * took && y.time() > 39.5 * took);
        CHECKS.same("the next run begins anew", y.run(10.0), 40);
        CHECKS.same("all steps together", y.count(1), 80);
    }

    private static void promise6BelowTheEnd() {
        double end = Math.nextDown(0.001);
        for (double time : new double[] {end, 0.0005, Double.MIN_VALUE}) {
            FlowGrid x = Grids.refusing();
            String before = Grids.all(x);
            CHECKS.same("run(" + time + ")", x.run(time), 0);
            CHECKS.same("all after run(" + time + ")", Grids.all(x), before);
        }
        FlowGrid y = still(1.0);
        CHECKS.same("run(0.001)", y.run(0.001), 1);
        CHECKS.same("run(0.001): time()", y.time(), 0.001);
        // After a step of 0.25 as little as can be is left that is not below 0.001, or a bit less.
        double whole = 0.251;
        double less = Math.nextDown(whole);
        CHECKS.holds("what is left", whole - 0.25 >= 0.001 && less - 0.25 < 0.001);
        CHECKS.same("run: 0.001 is left", still(2.56).run(whole), 2);
        FlowGrid z = still(2.56);
        CHECKS.same("run: less is left", z.run(less), 1);
        CHECKS.same("run: less is left, time()", z.time(), 0.25);
    }

    private static void promise6HalvedSteps() {
        double[] states = {4.0, 20.0, 0.5, 0.0, 20.0, -50.0, 20.0, -40.0};
        FlowGrid x = Grids.grid(2, 2, 0, 2, states);
        FlowGrid y = Grids.grid(2, 2, 0, 2, states);
        double half = 0.5 * (0.4 / 7.0);
        CHECKS.same("halved: the first step", y.step(0.06), half);
        CHECKS.same("halved: what is left", y.step(0.06 - half), 0.06 - half);
        CHECKS.same("run with a halved step", x.run(0.06), 2);
        CHECKS.same("run with a halved step: all", Grids.all(x), Grids.all(y));
        CHECKS.same("run with a halved step: count(2)", x.count(2), 1);
    }

    private static void promise6Refused() {
        FlowGrid x = Grids.refusing();
        String before = Grids.water(x);
        CHECKS.throwsIt("run refused at once", STATE, () -> x.run(10.0));
        CHECKS.same("run refused at once: water", Grids.water(x), before);
        CHECKS.same("run refused at once: time()", x.time(), 0.0);
        CHECKS.same("run refused at once: count(1)", x.count(1), 0);
        CHECKS.same("run refused at once: count(2)", x.count(2), 5);
        CHECKS.same("run refused at once: count(3)", x.count(3), 1);
        FlowGrid y = Grids.stubborn();
        FlowGrid z = Grids.stubborn();
        double took = z.step(10.0);
        CHECKS.throwsIt("run refused later", STATE, () -> y.run(10.0));
        CHECKS.same("run refused later: what was done stays", Grids.water(y), Grids.water(z));
        CHECKS.same("run refused later: time()", y.time(), took);
        CHECKS.same("run refused later: count(1)", y.count(1), 1);
        CHECKS.same("run refused later: count(3)", y.count(3), 1);
    }

    private static void promise7LastCell() {
        for (int n : new int[] {24, 4, 8}) {
            FlowGrid x = new FlowGrid();
            x.cells(24);
            fill(x);
            x.cells(n);
            x.put(n - 1, 4.0, -6.0);
            double[] due = {4.0, -6.0, -1.5, 2.0};
            for (int what = 0; what <= 3; what++) {
                int w = what;
                CHECKS.same("cell(" + (n - 1) + ", " + w + ")", x.cell(n - 1, w), due[w]);
                CHECKS.throwsIt("cell(" + n + ", " + w + ")", NO_SUCH, () -> x.cell(n, w));
                CHECKS.throwsIt("cell(-1, " + w + ")", NO_SUCH, () -> x.cell(-1, w));
                CHECKS.throwsIt("cell(MIN_VALUE, " + w + ")", NO_SUCH, () -> x.cell(Integer.MIN_VALUE, w));
                CHECKS.throwsIt("cell(MAX_VALUE, " + w + ")", NO_SUCH, () -> x.cell(Integer.MAX_VALUE, w));
            }
            for (int w : new int[] {-1, 4, Integer.MIN_VALUE, Integer.MAX_VALUE}) {
                CHECKS.throwsIt("cell(0, " + w + ")", NO_SUCH, () -> x.cell(0, w));
                CHECKS.throwsIt("cell(" + (n - 1) + ", " + w + ")", NO_SUCH, () -> x.cell(n - 1, w));
                CHECKS.throwsIt("cell(" + n + ", " + w + ")", NO_SUCH, () -> x.cell(n, w));
            }
        }
    }

    private static void promise8LastFace() {
        for (int n : new int[] {24, 4, 8}) {
            FlowGrid x = new FlowGrid();
            x.cells(24);
            fill(x);
            x.choose(2, 0, 1, 1);
            x.cells(n);
            x.put(0, 1.0, -6.0);
            x.put(n - 1, 1.0, 5.0);
            CHECKS.same("the first face", x.flux(0, false), -6.0);
            CHECKS.same("the first face", x.flux(0, true), 36.5);
            CHECKS.same("the last face", x.flux(n, false), 5.0);
            CHECKS.same("the last face", x.flux(n, true), 25.5);
            for (int face : new int[] {-1, n + 1, n + 2, Integer.MIN_VALUE, Integer.MAX_VALUE}) {
                CHECKS.throwsIt("flux(" + face + ", false) of " + n, NO_SUCH, () -> x.flux(face, false));
                CHECKS.throwsIt("flux(" + face + ", true) of " + n, NO_SUCH, () -> x.flux(face, true));
            }
        }
    }

    private static void promise8AsAllIsNow() {
        FlowGrid x = Grids.grid(2, 0, 1, 1, 1.0, 8.0, 1.0, 8.0, 1.0, 16.0, 1.0, 16.0);
        CHECKS.same("flux at first", x.flux(3, false), 16.0);
        x.step(0.015625);
        CHECKS.same("flux after a step", x.flux(3, false), 13.0);
        x.put(2, 1.0, 10.0);
        CHECKS.same("flux after put", x.flux(3, false), 10.0);
        x.choose(2, 1, 1, 1);
        CHECKS.same("flux after choose", x.flux(3, false), 11.0);
        x.cells(4);
        CHECKS.same("flux after cells", x.flux(3, false), 0.0);
        FlowGrid y = Grids.refusing();
        double before = y.flux(1, true);
        CHECKS.throwsIt("step", STATE, () -> y.step(10.0));
        CHECKS.same("flux after a refused step", y.flux(1, true), before);
    }

    private static void promise9FromCell0On() {
        double tiny = 1e-15;
        // The correction takes up what the sum loses, not what the value loses.
        FlowGrid first = Grids.shallow(0, 1, 0, tiny, 50.0, -50.0, 0.0);
        CHECKS.same("sum(true), a tiny one first", first.sum(true), 0.0);
        FlowGrid last = Grids.shallow(0, 1, 0, 50.0, -50.0, 0.0, tiny);
        CHECKS.same("sum(true), a tiny one last", last.sum(true), tiny);
        FlowGrid many = new FlowGrid();
        many.cells(24);
        for (int k = 0; k < 24; k++) {
            many.put(k, k == 0 ? 20.0 : 0.1 + 0.1, k == 0 ? 50.0 : tiny);
        }
        CHECKS.same("sum(true), many tiny ones", many.sum(true), 50.0 + 23.0 * tiny);
        CHECKS.holds("sum(true), many tiny ones, are seen", many.sum(true) > 50.0);
        CHECKS.same("sum(false), many small ones", many.sum(false), 24.6);
    }

    private static void promise9FewestAndMost() {
        FlowGrid x = new FlowGrid();
        x.cells(24);
        for (int k = 0; k < 24; k++) {
            x.put(k, 20.0, -50.0);
        }
        CHECKS.same("sum(false) of the most", x.sum(false), 480.0);
        CHECKS.same("sum(true) of the most", x.sum(true), -1200.0);
        x.cells(4);
        x.put(3, 0.125, 50.0);
        CHECKS.same("sum(false) of the fewest", x.sum(false), 3.125);
        CHECKS.same("sum(true) of the fewest", x.sum(true), 50.0);
    }

    private static void promise10OnlySteps() {
        FlowGrid x = Grids.stubborn();
        double took = x.step(10.0);
        CHECKS.same("the time of the last try alone", x.time(), took);
        CHECKS.same("the time of the last try alone", x.time(), 0.4 / 12.0 / 16.0);
        CHECKS.throwsIt("refused", STATE, () -> x.step(10.0));
        CHECKS.throwsIt("wrong", ARGUMENT, () -> x.step(0.0));
        CHECKS.throwsIt("wrong", ARGUMENT, () -> x.cells(3));
        x.run(0.0005);
        CHECKS.same("no time goes by otherwise", x.time(), took);
        x.cells(4);
        CHECKS.same("time() after cells", x.time(), 0.0);
        CHECKS.same("run", x.run(1.0), 3);
        CHECKS.same("time() after run", x.time(), 0.4 + 0.4 + (1.0 - 0.4 - 0.4));
    }

    private static void promise11Edges() {
        FlowGrid x = new FlowGrid();
        for (int n : new int[] {4, 24}) {
            x.cells(n);
            CHECKS.same("count(0)", x.count(0), n);
        }
        for (int what : new int[] {-1, 4, Integer.MIN_VALUE, Integer.MAX_VALUE}) {
            CHECKS.throwsIt("count(" + what + ")", NO_SUCH, () -> x.count(what));
        }
        FlowGrid y = Grids.refusing();
        for (int k = 1; k <= 3; k++) {
            CHECKS.throwsIt("step", STATE, () -> y.step(10.0));
            CHECKS.same("count(1) of refused steps", y.count(1), 0);
            CHECKS.same("count(2) of refused steps", y.count(2), 5 * k);
            CHECKS.same("count(3) of refused steps", y.count(3), k);
        }
        CHECKS.throwsIt("a wrong step", ARGUMENT, () -> y.step(0.0));
        CHECKS.same("count(2) of a wrong step", y.count(2), 15);
        CHECKS.same("count(3) of a wrong step", y.count(3), 3);
    }

    // "at most 512 calls": the last one is answered like all others.
    private static void lastCall() {
        FlowGrid x = new FlowGrid();
        double gone = 0.0;
        for (int call = 1; call <= 510; call++) {
            gone += x.step(10.0);
        }
        CHECKS.same("call 511", x.count(1), 510);
        CHECKS.same("call 512", x.time(), gone);
    }
}
