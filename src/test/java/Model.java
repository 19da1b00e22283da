import java.util.NoSuchElementException;

/**
 * The document once more, written for reading and not for thrift: new rows for every stage, and each
 * value looked up by its cell's number. The tests hold FlowGrid against it.
 */
final class Model {
    record State(double h, double m) {
        double u() { return m / h; }
        double c() { return root(h); }
        State flux() { return new State(m, m * u() + 0.5 * h * h); }
        State turned() { return new State(h, -m); }
    }

    private State[] cells;
    private int ends = 0;
    private int limiter = 1;
    private int solver = 0;
    private int order = 1;
    private double time = 0.0;
    private int made = 0;
    private int failed = 0;
    private int refused = 0;

    Model() {
        cells(8);
    }

    static double root(double x) {
        double r = x < 1 ? 1 : x;
        for (int i = 1; i <= 14; i++) r = 0.5 * (r + x / r);
        return r;
    }

    void cells(int n) {
        if (n < 4 || n > 24) throw new IllegalArgumentException();
        cells = new State[n];
        for (int i = 0; i < n; i++) cells[i] = new State(1.0, 0.0);
        time = 0.0;
    }

    void choose(int ends, int limiter, int solver, int order) {
        if (ends < 0 || ends > 2) throw new IllegalArgumentException();
        if (limiter < 0 || limiter > 3) throw new IllegalArgumentException();
        if (solver < 0 || solver > 1) throw new IllegalArgumentException();
        if (order < 1 || order > 2) throw new IllegalArgumentException();
        this.ends = ends;
        this.limiter = limiter;
        this.solver = solver;
        this.order = order;
    }

    void put(int cell, double h, double m) {
        boolean right = cell >= 0 && cell < cells.length
                && h >= 0.125 && h <= 20.0 && m >= -50.0 && m <= 50.0;
        if (!right) throw new IllegalArgumentException();
        cells[cell] = new State(h, m);
    }

    double step(double most) {
        boolean right = most > 0.0 && most <= 10.0;
        if (!right) throw new IllegalArgumentException();
        double w = 0.0;
        for (State s : cells) w = Math.max(w, Math.abs(s.u()) + s.c());
        double t = Math.min(most, 0.4 / w);
        int failures = 0;
        while (true) {
            State[] next = stages(t);
            if (next != null) {
                cells = next;
                time += t;
                made++;
                return t;
            }
            failures++;
            failed++;
            if (failures == 5) {
                refused++;
                throw new IllegalStateException();
            }
            t = t / 2.0;
        }
    }

    int run(double time) {
        boolean right = time > 0.0 && time <= 10.0;
        if (!right) throw new IllegalArgumentException();
        int n = 0;
        for (double left = time; n < 40 && left >= 0.001; n++) left -= step(left);
        return n;
    }

    double cell(int cell, int what) {
        if (cell < 0 || cell >= cells.length) throw new NoSuchElementException();
        State s = cells[cell];
        if (what == 0) return s.h();
        if (what == 1) return s.m();
        if (what == 2) return s.u();
        if (what == 3) return s.c();
        throw new NoSuchElementException();
    }

    double flux(int face, boolean second) {
        if (face < 0 || face > cells.length) throw new NoSuchElementException();
        State f = fluxAt(cells, face);
        return second ? f.m() : f.h();
    }

    double sum(boolean second) {
        double s = 0.0;
        double e = 0.0;
        for (State c : cells) {
            double v = second ? c.m() : c.h();
            double y = v - e;
            double t = s + y;
            e = (t - s) - y;
            s = t;
        }
        return s;
    }

    double time() {
        return time;
    }

    int count(int what) {
        if (what == 0) return cells.length;
        if (what == 1) return made;
        if (what == 2) return failed;
        if (what == 3) return refused;
        throw new NoSuchElementException();
    }

    private State[] stages(double t) {
        State[] second = stage(cells, t);
        if (order == 1 || second == null) return second;
        State[] third = stage(second, t);
        if (third == null) return null;
        State[] mean = new State[cells.length];
        for (int k = 0; k < mean.length; k++) {
            mean[k] = new State(0.5 * (cells[k].h() + third[k].h()), 0.5 * (cells[k].m() + third[k].m()));
        }
        return mean;
    }

    private State[] stage(State[] row, double t) {
        State[] next = new State[row.length];
        for (int k = 0; k < row.length; k++) {
            State in = fluxAt(row, k);
            State out = fluxAt(row, k + 1);
            next[k] = new State(row[k].h() - t * (out.h() - in.h()), row[k].m() - t * (out.m() - in.m()));
        }
        for (State s : next) {
            if (s.h() < 0.01 || s.m() > 1000.0 || s.m() < -1000.0) return null;
        }
        return next;
    }

    private State at(State[] row, int k) {
        int n = row.length;
        if (k >= 0 && k < n) return row[k];
        if (ends == 0) return row[(k + n) % n];
        if (ends == 1) return (k < 0 ? row[-1 - k] : row[2 * n - 1 - k]).turned();
        return k < 0 ? row[0] : row[n - 1];
    }

    private State slopes(State[] row, int k) {
        State before = at(row, k - 1);
        State own = at(row, k);
        State behind = at(row, k + 1);
        double h = slope(own.h() - before.h(), behind.h() - own.h());
        double m = slope(own.m() - before.m(), behind.m() - own.m());
        boolean dry = own.h() + 0.5 * h < 0.01 || own.h() - 0.5 * h < 0.01;
        return dry ? new State(0.0, 0.0) : new State(h, m);
    }

    private double slope(double a, double b) {
        if (limiter == 0 || !(a * b > 0.0)) return 0.0;
        if (limiter == 1) return least(a, b);
        if (limiter == 3) return 2.0 * a * b / (a + b);
        double p = least(2.0 * a, b);
        double q = least(a, 2.0 * b);
        return Math.abs(q) > Math.abs(p) ? q : p;
    }

    private static double least(double a, double b) {
        return Math.abs(b) < Math.abs(a) ? b : a;
    }

    private State fluxAt(State[] row, int face) {
        State l = at(row, face - 1);
        State ls = slopes(row, face - 1);
        State r = at(row, face);
        State rs = slopes(row, face);
        State left = new State(l.h() + 0.5 * ls.h(), l.m() + 0.5 * ls.m());
        State right = new State(r.h() - 0.5 * rs.h(), r.m() - 0.5 * rs.m());
        return solver == 0 ? broad(left, right) : narrow(left, right);
    }

    private static State broad(State l, State r) {
        State f = l.flux();
        State g = r.flux();
        double s = Math.max(Math.abs(l.u()) + l.c(), Math.abs(r.u()) + r.c());
        return new State(0.5 * (f.h() + g.h()) - 0.5 * s * (r.h() - l.h()),
                0.5 * (f.m() + g.m()) - 0.5 * s * (r.m() - l.m()));
    }

    private static State narrow(State l, State r) {
        State f = l.flux();
        State g = r.flux();
        double x = Math.min(l.u() - l.c(), r.u() - r.c());
        double y = Math.max(l.u() + l.c(), r.u() + r.c());
        if (x >= 0.0) return f;
        if (y <= 0.0) return g;
        return new State((y * f.h() - x * g.h() + x * y * (r.h() - l.h())) / (y - x),
                (y * f.m() - x * g.m() + x * y * (r.m() - l.m())) / (y - x));
    }
}
