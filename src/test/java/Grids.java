/** Grids that several tests begin with, and all that can be seen of one. */
final class Grids {
    private Grids() {
    }

    /** As many cells as there are pairs of a depth and a momentum. */
    static FlowGrid grid(int ends, int limiter, int solver, int order, double... states) {
        FlowGrid x = new FlowGrid();
        x.cells(states.length / 2);
        x.choose(ends, limiter, solver, order);
        for (int k = 0; k < states.length / 2; k++) {
            x.put(k, states[2 * k], states[2 * k + 1]);
        }
        return x;
    }

    /** Cells of depth 1.0, so that their speed is their momentum. */
    static FlowGrid shallow(int ends, int limiter, int solver, double... momenta) {
        double[] states = new double[2 * momenta.length];
        for (int k = 0; k < momenta.length; k++) {
            states[2 * k] = 1.0;
            states[2 * k + 1] = momenta[k];
        }
        return grid(ends, limiter, solver, 1, states);
    }

    /** Refused at once: every try of its first step makes some cell fall dry. */
    static FlowGrid refusing() {
        return grid(0, 3, 1, 2, 16.0, 50.0, 4.0, 5.0, 16.0, -50.0, 0.25, 0.0);
    }

    /** Its first step fails four times, its second one five times. */
    static FlowGrid stubborn() {
        return grid(0, 2, 1, 1, 0.125, 0.0, 16.0, 50.0, 4.0, 10.0, 4.0, -40.0);
    }

    /** The cells and what flows between them. */
    static String water(FlowGrid x) {
        StringBuilder b = new StringBuilder();
        for (int k = 0; k < x.count(0); k++) {
            b.append(x.cell(k, 0)).append('/').append(x.cell(k, 1)).append(' ');
        }
        for (int face = 0; face <= x.count(0); face++) {
            b.append(x.flux(face, false)).append('/').append(x.flux(face, true)).append(' ');
        }
        return b.toString();
    }

    /** All but the order, which only a step shows. */
    static String all(FlowGrid x) {
        StringBuilder b = new StringBuilder(water(x)).append(x.time());
        for (int what = 1; what <= 3; what++) {
            b.append(' ').append(x.count(what));
        }
        return b.toString();
    }
}
