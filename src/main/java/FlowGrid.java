import java.util.NoSuchElementException;

/**
 * Water in a channel: cells with a depth and a momentum, moved by the fluxes through the faces
 * between them.
 */
public final class FlowGrid {
    private static final int FEWEST_CELLS = 4;
    private static final int MOST_CELLS = 24;
    private static final int CELLS_AT_FIRST = 8;
    private static final int BEYOND = 2;
    private static final int ROOM = MOST_CELLS + 2 * BEYOND;

    private static final int RING = 0;
    private static final int WALL = 1;
    private static final int OPEN = 2;

    private static final int FLAT = 0;
    private static final int LEAST = 1;
    private static final int STEEP = 2;
    private static final int SMOOTH = 3;

    private static final int BROAD = 0;
    private static final int NARROW = 1;

    private static final int ROOT_ROUNDS = 14;
    private static final int MOST_TRIES = 5;
    private static final int MOST_STEPS_A_RUN = 40;

    private final Row now = new Row();
    private final Row trial = new Row();
    private final Faces faces = new Faces();

    private int ends = RING;
    private int limiter = LEAST;
    private int solver = BROAD;
    private int order = 1;

    private double gone = 0.0;
    private int stepsMade = 0;
    private int triesFailed = 0;
    private int stepsRefused = 0;

    public FlowGrid() {
        now.level(CELLS_AT_FIRST);
    }

    public void cells(int n) throws IllegalArgumentException {
        if (!isWithin(n, FEWEST_CELLS, MOST_CELLS)) {
            throw new IllegalArgumentException("the number of cells is not 4 .. 24");
        }
        now.level(n);
        gone = 0.0;
    }

    public void choose(int ends, int limiter, int solver, int order)
            throws IllegalArgumentException {
        if (!isWithin(ends, RING, OPEN) || !isWithin(limiter, FLAT, SMOOTH)
                || !isWithin(solver, BROAD, NARROW) || !isWithin(order, 1, 2)) {
            throw new IllegalArgumentException("there is no such kind of ends, limiter, solver or order");
        }
        this.ends = ends;
        this.limiter = limiter;
        this.solver = solver;
        this.order = order;
    }

    public void put(int cell, double h, double m) throws IllegalArgumentException {
        if (!now.has(cell)) {
            throw new IllegalArgumentException("there is no such cell");
        }
        if (!(h >= 0.125 && h <= 20.0)) {
            throw new IllegalArgumentException("the depth is not 0.125 .. 20.0");
        }
        if (!(m >= -50.0 && m <= 50.0)) {
            throw new IllegalArgumentException("the momentum is not -50.0 .. 50.0");
        }
        now.depths[BEYOND + cell] = h;
        now.momenta[BEYOND + cell] = m;
    }

    public double step(double most) throws IllegalArgumentException, IllegalStateException {
        if (!isSpan(most)) {
            throw new IllegalArgumentException("the time is not above 0.0 and at most 10.0");
        }
        return advance(most);
    }

    public int run(double time) throws IllegalArgumentException, IllegalStateException {
        if (!isSpan(time)) {
            throw new IllegalArgumentException("the time is not above 0.0 and at most 10.0");
        }
        double left = time;
        int steps = 0;
        while (steps < MOST_STEPS_A_RUN && left >= 0.001) {
            left = left - advance(left);
            steps++;
        }
        return steps;
    }

    public double cell(int cell, int what) throws NoSuchElementException {
        if (!now.has(cell)) {
            throw new NoSuchElementException("there is no such cell");
        }
        double h = now.depths[BEYOND + cell];
        double m = now.momenta[BEYOND + cell];
        switch (what) {
            case 0:
                return h;
            case 1:
                return m;
            case 2:
                return speedOf(h, m);
            case 3:
                return root(h);
            default:
                throw new NoSuchElementException("a cell has no such value");
        }
    }

    public double flux(int face, boolean second) throws NoSuchElementException {
        if (!isWithin(face, 0, now.size)) {
            throw new NoSuchElementException("there is no such face");
        }
        now.fillEnds(ends);
        faces.measure(now, limiter, solver);
        return second ? faces.momentumFluxes[face] : faces.depthFluxes[face];
    }

    public double sum(boolean second) {
        return now.total(second ? now.momenta : now.depths);
    }

    public double time() {
        return gone;
    }

    public int count(int what) throws NoSuchElementException {
        switch (what) {
            case 0:
                return now.size;
            case 1:
                return stepsMade;
            case 2:
                return triesFailed;
            case 3:
                return stepsRefused;
            default:
                throw new NoSuchElementException("there is no such count");
        }
    }

    private double advance(double most) throws IllegalStateException {
        double t = now.longestTime(most);
        for (int tries = 0; tries < MOST_TRIES; tries++) {
            if (succeeds(t)) {
                gone = gone + t;
                stepsMade++;
                return t;
            }
            triesFailed++;
            t = 0.5 * t;
        }
        stepsRefused++;
        throw new IllegalStateException("the step is refused");
    }

    // The stages work on a row of their own, so that a failed try leaves all as it was.
    private boolean succeeds(double t) {
        trial.become(now);
        for (int stage = 0; stage < order; stage++) {
            trial.fillEnds(ends);
            faces.measure(trial, limiter, solver);
            trial.move(t, faces);
            if (trial.hasFailed()) {
                return false;
            }
        }
        if (order == 2) {
            trial.meet(now);
        }
        now.become(trial);
        return true;
    }

    private static boolean isWithin(int value, int least, int most) {
        return value >= least && value <= most;
    }

    // Asked in the affirmative, so that a time that is not a number is refused too.
    private static boolean isSpan(double time) {
        return time > 0.0 && time <= 10.0;
    }

    private static double root(double x) {
        double r = x < 1.0 ? 1.0 : x;
        for (int round = 0; round < ROOT_ROUNDS; round++) {
            // True for every depth a cell can have; it keeps the division safe for any other x.
            if (r > 0.0) {
                r = 0.5 * (r + x / r);
            }
        }
        return r;
    }

    // No depth is ever below 0.01; the test only keeps the division safe by its own line.
    private static double speedOf(double h, double m) {
        return h > 0.0 ? m / h : 0.0;
    }

    private static double absolute(double x) {
        return x < 0.0 ? -x : x;
    }

    private static double greater(double a, double b) {
        return a >= b ? a : b;
    }

    private static double lesser(double a, double b) {
        return a <= b ? a : b;
    }

    /** The states of a row of cells; cell k stands at place BEYOND + k, beside those beyond the ends. */
    private static final class Row {
        final double[] depths = new double[ROOM];
        final double[] momenta = new double[ROOM];
        int size = 0;

        boolean has(int cell) {
            return cell >= 0 && cell < size;
        }

        void level(int n) {
            size = n;
            for (int place = 0; place < ROOM; place++) {
                depths[place] = 1.0;
                momenta[place] = 0.0;
            }
        }

        void become(Row other) {
            size = other.size;
            System.arraycopy(other.depths, 0, depths, 0, ROOM);
            System.arraycopy(other.momenta, 0, momenta, 0, ROOM);
        }

        void fillEnds(int kind) {
            int first = BEYOND;
            int last = BEYOND + size - 1;
            for (int far = 1; far <= BEYOND; far++) {
                switch (kind) {
                    case RING:
                        copy(last + 1 - far, first - far);
                        copy(first - 1 + far, last + far);
                        break;
                    case WALL:
                        mirror(first - 1 + far, first - far);
                        mirror(last + 1 - far, last + far);
                        break;
                    default:
                        copy(first, first - far);
                        copy(last, last + far);
                        break;
                }
            }
        }

        private void copy(int from, int to) {
            depths[to] = depths[from];
            momenta[to] = momenta[from];
        }

        private void mirror(int from, int to) {
            depths[to] = depths[from];
            momenta[to] = -momenta[from];
        }

        void move(double t, Faces faces) {
            for (int k = 0; k < size; k++) {
                int place = BEYOND + k;
                depths[place] = depths[place]
                        - t * (faces.depthFluxes[k + 1] - faces.depthFluxes[k]);
                momenta[place] = momenta[place]
                        - t * (faces.momentumFluxes[k + 1] - faces.momentumFluxes[k]);
            }
        }

        boolean hasFailed() {
            for (int place = BEYOND; place < BEYOND + size; place++) {
                if (depths[place] < 0.01 || momenta[place] > 1000.0 || momenta[place] < -1000.0) {
                    return true;
                }
            }
            return false;
        }

        void meet(Row first) {
            for (int place = BEYOND; place < BEYOND + size; place++) {
                depths[place] = 0.5 * (first.depths[place] + depths[place]);
                momenta[place] = 0.5 * (first.momenta[place] + momenta[place]);
            }
        }

        double longestTime(double most) {
            double w = 0.0;
            for (int place = BEYOND; place < BEYOND + size; place++) {
                double h = depths[place];
                w = greater(w, absolute(speedOf(h, momenta[place])) + root(h));
            }
            return w > 0.0 ? lesser(most, 0.4 / w) : most;
        }

        double total(double[] values) {
            double s = 0.0;
            double e = 0.0;
            for (int place = BEYOND; place < BEYOND + size; place++) {
                double y = values[place] - e;
                double t = s + y;
                e = (t - s) - y;
                s = t;
            }
            return s;
        }
    }

    /** What stands at one side of a face. */
    private static final class State {
        double h = 1.0;
        double m = 0.0;
        double speed = 0.0;
        double wave = 1.0;

        void become(double depth, double momentum) {
            h = depth;
            m = momentum;
            speed = speedOf(depth, momentum);
            wave = root(depth);
        }

        double reach() {
            return absolute(speed) + wave;
        }

        double depthFlux() {
            return m;
        }

        double momentumFlux() {
            return m * speed + 0.5 * h * h;
        }
    }

    /** The slopes of the cells, by the places of their row, and the fluxes of the faces. */
    private static final class Faces {
        final double[] depthSlopes = new double[ROOM];
        final double[] momentumSlopes = new double[ROOM];
        final double[] depthFluxes = new double[MOST_CELLS + 1];
        final double[] momentumFluxes = new double[MOST_CELLS + 1];
        final State left = new State();
        final State right = new State();

        void measure(Row row, int limiter, int solver) {
            fillSlopes(row, limiter);
            for (int face = 0; face <= row.size; face++) {
                guess(row, face);
                if (solver == NARROW) {
                    solveNarrow(face);
                } else {
                    solveBroad(face);
                }
            }
        }

        private void fillSlopes(Row row, int limiter) {
            for (int place = BEYOND - 1; place <= BEYOND + row.size; place++) {
                double h = row.depths[place];
                double slope = slopeAt(row.depths, place, limiter);
                boolean dry = h + 0.5 * slope < 0.01 || h - 0.5 * slope < 0.01;
                depthSlopes[place] = dry ? 0.0 : slope;
                momentumSlopes[place] = dry ? 0.0 : slopeAt(row.momenta, place, limiter);
            }
        }

        private double slopeAt(double[] values, int place, int limiter) {
            double a = values[place] - values[place - 1];
            double b = values[place + 1] - values[place];
            if (limiter == FLAT || !(a * b > 0.0)) {
                return 0.0;
            }
            switch (limiter) {
                case LEAST:
                    return nearer(a, b);
                case STEEP:
                    return farther(nearer(2.0 * a, b), nearer(a, 2.0 * b));
                default:
                    // a * b is above 0.0, so both have one sign and a + b is not 0.0.
                    return 2.0 * a * b / (a + b);
            }
        }

        // Both values of these two have one sign, so only that of the first is looked at.
        private static double nearer(double a, double b) {
            return (a < 0.0 ? a >= b : a <= b) ? a : b;
        }

        private static double farther(double p, double q) {
            return (p < 0.0 ? p <= q : p >= q) ? p : q;
        }

        private void guess(Row row, int face) {
            int before = BEYOND + face - 1;
            int behind = BEYOND + face;
            left.become(row.depths[before] + 0.5 * depthSlopes[before],
                    row.momenta[before] + 0.5 * momentumSlopes[before]);
            right.become(row.depths[behind] - 0.5 * depthSlopes[behind],
                    row.momenta[behind] - 0.5 * momentumSlopes[behind]);
        }

        private void solveBroad(int face) {
            double s = greater(left.reach(), right.reach());
            depthFluxes[face] = 0.5 * (left.depthFlux() + right.depthFlux())
                    - 0.5 * s * (right.h - left.h);
            momentumFluxes[face] = 0.5 * (left.momentumFlux() + right.momentumFlux())
                    - 0.5 * s * (right.m - left.m);
        }

        private void solveNarrow(int face) {
            double x = lesser(left.speed - left.wave, right.speed - right.wave);
            double y = greater(left.speed + left.wave, right.speed + right.wave);
            depthFluxes[face] = blend(x, y, left.depthFlux(), right.depthFlux(), right.h - left.h);
            momentumFluxes[face] =
                    blend(x, y, left.momentumFlux(), right.momentumFlux(), right.m - left.m);
        }

        private static double blend(double x, double y, double f, double g, double jump) {
            if (!(x < 0.0)) {
                return f;
            }
            if (!(y > 0.0)) {
                return g;
            }
            // Here x is below and y above 0.0, so y - x is not 0.0.
            return (y * f - x * g + x * y * jump) / (y - x);
        }
    }
}
