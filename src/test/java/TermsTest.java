/** The boundary cases that the document's Terms name, each met exactly and from both sides. */
public final class TermsTest {
    private static final int RING = 0;
    private static final int WALL = 1;
    private static final int OPEN = 2;
    private static final int STEEP = 2;
    private static final int BROAD = 0;
    private static final int NARROW = 1;
    private static final double[] SOME = {1.0, 3.0, 2.0, 5.0, 4.0, 1.0, 9.0, -2.0, 8.0, 4.0, 3.0, -6.0, 0.5, 1.0,
        1.5, 2.0, 2.5, 2.5, 16.0, 9.0, 20.0, -8.0, 5.0, 5.0};
    private static final Checks CHECKS = new Checks();

    public static void main(String[] args) {
        rootBelowAndAboveOne();
        ringHasNoFirstCell();
        wallIsAMirror();
        openRepeatsItsLastCell();
        productNotAboveZero();
        depthAtTheSlopesLimit();
        slopesLeadBelowTheLimit();
        narrowAtZero();
        depthAtTheStagesLimit();
        momentumAtTheStagesLimit();
        eitherStageFails();
        timeAtTheWavesLimit();
        fifthFailure();
        CHECKS.end();
    }

    // "r begins as x, or as 1 when x is below 1": not always the double next to the true root.
    private static void rootBelowAndAboveOne() {
        double[][] roots = {{0.125, 0.35355339059327373}, {0.5, 0.7071067811865475},
            {0.75, 0.8660254037844386}, {Math.nextDown(1.0), 1.0}, {1.0, 1.0}, {Math.nextUp(1.0), 1.0},
            {2.0, 1.414213562373095}, {10.0, 3.162277660168379}, {20.0, 4.47213595499958}};
        FlowGrid x = new FlowGrid();
        for (double[] r : roots) {
            x.put(0, r[0], 0.0);
            CHECKS.same("wave of " + r[0], x.cell(0, 3), r[1]);
        }
    }

    private interface Trial {
        void make(int limiter, int solver, int order);
    }

    private static void withAllChoices(Trial trial) {
        for (int k = 0; k < 16; k++) {
            trial.make(k % 4, k / 4 % 2, 1 + k / 8);
        }
    }

    // Checks that all of x stands in y too, as many cells further on.
    private static void within(String what, FlowGrid x, FlowGrid y, int shift) {
        int n = x.count(0);
        int size = y.count(0);
        for (int k = 0; k < n; k++) {
            CHECKS.same(what + ": depth of " + k, x.cell(k, 0), y.cell((k + shift) % size, 0));
            CHECKS.same(what + ": momentum of " + k, x.cell(k, 1), y.cell((k + shift) % size, 1));
        }
        for (int face = 0; face <= n; face++) {
            int other = face + shift > size ? face + shift - size : face + shift;
            CHECKS.same(what + ": flux(" + face + ", false)", x.flux(face, false), y.flux(other, false));
            CHECKS.same(what + ": flux(" + face + ", true)", x.flux(face, true), y.flux(other, true));
        }
    }

    // "Kind 0, RING": where the numbers begin does not matter, in the fewest cells and in the most.
    private static void ringHasNoFirstCell() {
        for (int n : new int[] {4, 5, 24}) {
            withAllChoices((limiter, solver, order) -> {
                double[] states = new double[2 * n];
                double[] turned = new double[2 * n];
                for (int i = 0; i < 2 * n; i++) {
                    states[i] = SOME[i % SOME.length];
                    turned[(i + 6) % (2 * n)] = states[i];
                }
                FlowGrid x = Grids.grid(RING, limiter, solver, order, states);
                FlowGrid y = Grids.grid(RING, limiter, solver, order, turned);
                within("RING of " + n, x, y, 3);
                CHECKS.same("RING of " + n + ": step", x.step(10.0), y.step(10.0));
                within("RING of " + n + ", stepped", x, y, 3);
                CHECKS.same("RING: one face, two numbers", x.flux(0, true), x.flux(n, true));
            });
        }
    }

    // "Kind 1, WALL": as half of a ring whose other half is its mirror.
    private static void wallIsAMirror() {
        for (int n : new int[] {4, 12}) {
            withAllChoices((limiter, solver, order) -> {
                double[] states = new double[2 * n];
                double[] both = new double[4 * n];
                for (int k = 0; k < n; k++) {
                    int mirrored = 2 * n - 1 - k;
                    states[2 * k] = both[2 * k] = both[2 * mirrored] = SOME[2 * k];
                    states[2 * k + 1] = both[2 * k + 1] = SOME[2 * k + 1];
                    both[2 * mirrored + 1] = -SOME[2 * k + 1];
                }
                FlowGrid x = Grids.grid(WALL, limiter, solver, order, states);
                FlowGrid y = Grids.grid(RING, limiter, solver, order, both);
                within("WALL of " + n, x, y, 0);
                CHECKS.same("WALL of " + n + ": step", x.step(10.0), y.step(10.0));
                within("WALL of " + n + ", stepped", x, y, 0);
                CHECKS.same("WALL: nothing flows through", x.flux(0, false), 0.0);
                CHECKS.same("WALL: nothing flows through", x.flux(n, false), 0.0);
            });
        }
    }

    // "Kind 2, OPEN": as if the first and the last cell stood there twice more.
    private static void openRepeatsItsLastCell() {
        for (int n : new int[] {4, 12}) {
            withAllChoices((limiter, solver, order) -> {
                double[] states = new double[2 * n];
                double[] more = new double[2 * (n + 4)];
                for (int k = -2; k < n + 2; k++) {
                    int own = k < 0 ? 0 : k >= n ? n - 1 : k;
                    states[2 * own] = more[2 * (k + 2)] = SOME[2 * own];
                    states[2 * own + 1] = more[2 * (k + 2) + 1] = SOME[2 * own + 1];
                }
                FlowGrid x = Grids.grid(OPEN, limiter, solver, order, states);
                within("OPEN of " + n, x, Grids.grid(RING, limiter, solver, order, more), 2);
                within("OPEN of " + n, x, Grids.grid(WALL, limiter, solver, order, more), 2);
            });
        }
    }

    // "0.0, if a * b is not above 0.0": also where the product of two small ones vanishes.
    private static void productNotAboveZero() {
        double gone = 1e-170;
        double there = 1e-160;
        CHECKS.holds("the products", gone * gone == 0.0 && there * there > 0.0);
        for (int limiter = 1; limiter <= 3; limiter++) {
            FlowGrid x = Grids.shallow(OPEN, limiter, BROAD, 0.0, gone, 2.0 * gone, 2.0 * gone);
            CHECKS.same("limiter " + limiter + ", a * b vanishes", x.flux(2, false), 0.5 * (gone + 2.0 * gone));
            FlowGrid y = Grids.shallow(OPEN, limiter, BROAD, 0.0, there, 2.0 * there, 2.0 * there);
            double slope = limiter == 3 ? 2.0 * there * there / (there + there) : there;
            CHECKS.same("limiter " + limiter + ", a * b just above 0.0", y.flux(2, false),
                    0.5 * (there + 0.5 * slope + 2.0 * there));
        }
    }

    // The middle cell has 0.125 and is drained to both sides: of h, 25 flows through each of its faces.
    private static FlowGrid basin() {
        return Grids.grid(OPEN, 1, NARROW, 1, 1.0, -50.0, 1.0, -50.0, 0.125, 0.0, 1.0, 50.0, 1.0, 50.0);
    }

    private static void drainOn(FlowGrid x) {
        x.put(1, 1.0, -50.0);
        x.put(3, 1.0, 50.0);
    }

    // Near enough to the limit that the next step can lead to any double there.
    private static FlowGrid nearlyDry() {
        FlowGrid x = basin();
        x.step(0.00225);
        drainOn(x);
        return x;
    }

    private static double timeTo(double depth, FlowGrid x) {
        return (x.cell(2, 0) - depth) / 50.0;
    }

    private static FlowGrid atTheLimit() {
        FlowGrid x = nearlyDry();
        x.step(timeTo(0.01, x));
        CHECKS.same("at the limit: depth", x.cell(2, 0), 0.01);
        CHECKS.same("at the limit: momentum", x.cell(2, 1), 0.0);
        return x;
    }

    // "is below 0.01, both slopes .. are 0.0": of exactly 0.01 they are not.
    private static void depthAtTheSlopesLimit() {
        FlowGrid x = atTheLimit();
        drainOn(x);
        for (int limiter = 1; limiter <= 3; limiter++) {
            x.choose(OPEN, limiter, NARROW, 1);
            CHECKS.same("slopes at 0.01: flux(2, false)", x.flux(2, false), -25.0);
            CHECKS.same("slopes at 0.01: flux(3, false)", x.flux(3, false), 25.0);
            CHECKS.same("slopes at 0.01: flux(3, true)", x.flux(3, true), 25.0 * (25.0 / 0.01) + 0.5 * 0.01 * 0.01);
        }
    }

    // STEEP leads down to the neighbour's 0.01, and by rounding a little below it or above.
    private static void slopesLeadBelowTheLimit() {
        CHECKS.holds("below by rounding", 2.125 - 0.5 * (2.0 * (2.125 - 0.01)) < 0.01);
        CHECKS.holds("above by rounding", 2.0 - 0.5 * (2.0 * (2.0 - 0.01)) > 0.01);
        double flat = 40.0 * (40.0 / 2.125) + 0.5 * 2.125 * 2.125;
        double h = 2.0 + 0.5 * (2.0 * (2.0 - 0.01));
        double steep = 50.0 * (50.0 / h) + 0.5 * h * h;
        FlowGrid x = atTheLimit();
        x.choose(OPEN, STEEP, NARROW, 1);
        x.put(3, 2.125, 40.0);
        x.put(4, 7.0, 50.0);
        CHECKS.same("h - 0.5 * slope below 0.01: flux(4, false)", x.flux(4, false), 40.0);
        CHECKS.same("h - 0.5 * slope below 0.01: flux(4, true)", x.flux(4, true), flat);
        x.put(3, 2.0, 40.0);
        CHECKS.same("h - 0.5 * slope above 0.01: flux(4, false)", x.flux(4, false), 50.0);
        CHECKS.same("h - 0.5 * slope above 0.01: flux(4, true)", x.flux(4, true), steep);
        x.put(1, 2.125, -40.0);
        x.put(0, 7.0, -50.0);
        CHECKS.same("h + 0.5 * slope below 0.01: flux(1, false)", x.flux(1, false), -40.0);
        CHECKS.same("h + 0.5 * slope below 0.01: flux(1, true)", x.flux(1, true), flat);
        x.put(1, 2.0, -40.0);
        CHECKS.same("h + 0.5 * slope above 0.01: flux(1, false)", x.flux(1, false), -50.0);
        CHECKS.same("h + 0.5 * slope above 0.01: flux(1, true)", x.flux(1, true), steep);
    }

    // "If x is not below 0.0: F .. if y is not above 0.0: G": the third formula would give 1.4999999999999998.
    private static void narrowAtZero() {
        FlowGrid right = Grids.grid(OPEN, 0, NARROW, 1, 1.0, 1.0, 1.0, 1.0, 2.0, 3.0, 2.0, 3.0);
        CHECKS.same("NARROW, x is 0.0: flux(2, false)", right.flux(2, false), 1.0);
        CHECKS.same("NARROW, x is 0.0: flux(2, true)", right.flux(2, true), 1.5);
        FlowGrid left = Grids.grid(OPEN, 0, NARROW, 1, 2.0, -3.0, 2.0, -3.0, 1.0, -1.0, 1.0, -1.0);
        CHECKS.same("NARROW, y is 0.0: flux(2, false)", left.flux(2, false), -1.0);
        CHECKS.same("NARROW, y is 0.0: flux(2, true)", left.flux(2, true), 1.5);
    }

    // "It FAILS if some h is below 0.01 then": not at 0.01, but at the double before it.
    private static void depthAtTheStagesLimit() {
        FlowGrid x = nearlyDry();
        double fine = timeTo(0.01, x);
        CHECKS.same("to 0.01: step", x.step(fine), fine);
        CHECKS.same("to 0.01: depth", x.cell(2, 0), 0.01);
        CHECKS.same("to 0.01: count(2)", x.count(2), 0);
        FlowGrid y = nearlyDry();
        double before = y.cell(2, 0);
        double tooLong = timeTo(Math.nextDown(0.01), y);
        CHECKS.same("a bit less than 0.01", before - tooLong * 50.0, Math.nextDown(0.01));
        CHECKS.same("below 0.01: step", y.step(tooLong), 0.5 * tooLong);
        CHECKS.same("below 0.01: depth", y.cell(2, 0), before - 0.5 * tooLong * 50.0);
        CHECKS.same("below 0.01: count(2)", y.count(2), 1);
    }

    // The thin middle cell is met by a fast flow whose momentum goes over into it; side is 1 or -1.
    private static FlowGrid struck(int side) {
        FlowGrid x = basin();
        x.step(0.002);
        x.choose(OPEN, STEEP, NARROW, 1);
        x.put(2 + 2 * side, 1.0, 0.0);
        x.put(2 + side, 1.0, 0.0);
        x.put(2 - side, 6.0, side * 32.0);
        x.put(2 - 2 * side, 20.0, side * 32.0);
        return x;
    }

    // "or some m above 1000.0 or below -1000.0": not at these two, but at the doubles behind them.
    private static void momentumAtTheStagesLimit() {
        for (int side = -1; side <= 1; side += 2) {
            String name = "momentum to " + side * 1000.0;
            FlowGrid x = struck(side);
            double more = side * (x.flux(2, true) - x.flux(3, true));
            double fine = 1000.0 / more;
            CHECKS.same(name + ": before", x.cell(2, 1), 0.0);
            CHECKS.same(name + ": step", x.step(fine), fine);
            CHECKS.same(name + ": momentum", x.cell(2, 1), side * 1000.0);
            CHECKS.same(name + ": count(2)", x.count(2), 0);
            FlowGrid y = struck(side);
            double tooLong = Math.nextUp(1000.0) / more;
            CHECKS.same(name + ", a bit more", tooLong * more, Math.nextUp(1000.0));
            CHECKS.same(name + ", a bit more: step", y.step(tooLong), 0.5 * tooLong);
            CHECKS.same(name + ", a bit more: momentum", y.cell(2, 1), side * (0.5 * tooLong * more));
            CHECKS.same(name + ", a bit more: count(2)", y.count(2), 1);
        }
    }

    private static void failsOnce(String name, FlowGrid x) {
        CHECKS.same(name + ": step", x.step(0.015625), 0.0078125);
        CHECKS.same(name + ": count(2)", x.count(2), 1);
    }

    // "If a stage fails": the first one of two, or the second one, by a depth or by a momentum.
    private static void eitherStageFails() {
        // The second row has 0.0078125 in cell 2, the third one 0.0545 again.
        double[] drying = {20.0, -50.0, 2.0, -30.0, 0.125, 0.0, 0.125, 0.0};
        failsOnce("the only stage", Grids.grid(OPEN, STEEP, BROAD, 1, drying));
        failsOnce("the first stage of two", Grids.grid(OPEN, STEEP, BROAD, 2, drying));
        // The third row has a momentum of 2778 below 0.0 in the last cell, or above it in the first one.
        double[] back = {4.0, 30.0, 20.0, -20.0, 4.0, 40.0, 0.125, 0.0};
        double[] forth = {0.125, 0.0, 4.0, -40.0, 20.0, 20.0, 4.0, -30.0};
        for (double[] states : new double[][] {back, forth}) {
            FlowGrid once = Grids.grid(WALL, STEEP, BROAD, 1, states);
            CHECKS.same("a stage alone: step", once.step(0.015625), 0.015625);
            CHECKS.same("a stage alone: count(2)", once.count(2), 0);
            failsOnce("the second stage of two", Grids.grid(WALL, STEEP, BROAD, 2, states));
        }
    }

    // "t is that, or, if it is less, 0.4 / w".
    private static void timeAtTheWavesLimit() {
        FlowGrid x = new FlowGrid();
        CHECKS.same("step a bit below 0.4", x.step(Math.nextDown(0.4)), Math.nextDown(0.4));
        CHECKS.same("step of 0.4", x.step(0.4), 0.4);
        CHECKS.same("step a bit above 0.4", x.step(Math.nextUp(0.4)), 0.4);
    }

    // "at the fifth failure the step is REFUSED": four failures are not too many.
    private static void fifthFailure() {
        FlowGrid x = Grids.refusing();
        CHECKS.same("four failures: step", x.step(0.04), 0.0025);
        CHECKS.same("four failures: count(1)", x.count(1), 1);
        CHECKS.same("four failures: count(2)", x.count(2), 4);
        CHECKS.same("four failures: count(3)", x.count(3), 0);
        FlowGrid y = Grids.refusing();
        CHECKS.throwsIt("five failures: step", IllegalStateException.class, () -> y.step(0.0625));
        CHECKS.same("five failures: count(1)", y.count(1), 0);
        CHECKS.same("five failures: count(2)", y.count(2), 5);
        CHECKS.same("five failures: count(3)", y.count(3), 1);
    }
}
