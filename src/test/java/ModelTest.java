import java.util.Random;

/** Long runs of calls, ordinary and wrong ones, whose answers must be those of the Model to the last bit. */
public final class ModelTest {
    private static final int OBJECTS = 2000;
    // With those that stir and compare, at most the 512 that the document grants an object.
    private static final int CALLS = 380;
    private static final int[] ODD_INTS = {-1, 3, 4, 24, 25, Integer.MIN_VALUE, Integer.MAX_VALUE};
    private static final double[] ODD_DOUBLES = {0.0, -0.0, -1.0, 10.0, 10.5, 20.0, 20.5, 50.0, 51.0, 0.0005,
        0.001, Double.NaN, Double.POSITIVE_INFINITY, Double.NEGATIVE_INFINITY, Double.MIN_VALUE,
        Double.MAX_VALUE};
    private static final double[] DEPTHS = {0.125, 0.25, 0.5, 1.0, 4.0, 16.0, 20.0};
    private static final Checks CHECKS = new Checks();

    private final Random random;
    private final FlowGrid grid = new FlowGrid();
    private final Model model = new Model();
    private final String name;

    private ModelTest(int seed) {
        random = new Random(seed);
        name = "seed " + seed;
    }

    public static void main(String[] args) {
        int failures = 0;
        int refusals = 0;
        for (int seed = 1; seed <= OBJECTS; seed++) {
            ModelTest test = new ModelTest(seed);
            test.stir();
            for (int call = 1; call <= CALLS; call++) {
                test.call(call);
            }
            test.compareAll();
            failures += test.model.count(2);
            refusals += test.model.count(3);
        }
        CHECKS.holds("many failures met", failures > 10000);
        CHECKS.holds("many refusals met", refusals > 1000);
        CHECKS.end();
    }

    private int any(int below) {
        return random.nextInt(16) == 0 ? ODD_INTS[random.nextInt(ODD_INTS.length)] : random.nextInt(below);
    }

    private double any(double least, double most) {
        if (random.nextInt(16) == 0) {
            return ODD_DOUBLES[random.nextInt(ODD_DOUBLES.length)];
        }
        return least + (most - least) * random.nextDouble();
    }

    private void stir() {
        int n = 4 + random.nextInt(21);
        int e = random.nextInt(3);
        int l = random.nextInt(4);
        int s = random.nextInt(2);
        int o = 1 + random.nextInt(2);
        grid.cells(n);
        model.cells(n);
        grid.choose(e, l, s, o);
        model.choose(e, l, s, o);
        boolean wild = random.nextBoolean();
        for (int k = 0; k < n; k++) {
            double h = wild ? DEPTHS[random.nextInt(DEPTHS.length)] : 1.0 + random.nextDouble();
            double m = (wild ? 100.0 : 2.0) * (random.nextDouble() - 0.5);
            grid.put(k, h, m);
            model.put(k, h, m);
        }
    }

    private void call(int number) {
        String what = name + ", call " + number + ": ";
        switch (random.nextInt(40)) {
            case 0 -> {
                int n = any(26);
                both(what + "cells", () -> nothing(() -> grid.cells(n)), () -> nothing(() -> model.cells(n)));
            }
            case 1 -> {
                int e = any(3);
                int l = any(4);
                int s = any(2);
                int o = 1 + any(2);
                both(what + "choose", () -> nothing(() -> grid.choose(e, l, s, o)),
                        () -> nothing(() -> model.choose(e, l, s, o)));
            }
            case 2 -> {
                double time = any(0.0, 2.0);
                both(what + "run", () -> grid.run(time), () -> model.run(time));
            }
            case 3, 4 -> {
                boolean second = random.nextBoolean();
                both(what + "sum", () -> grid.sum(second), () -> model.sum(second));
            }
            case 5, 6 -> both(what + "time", grid::time, model::time);
            case 7, 8 -> {
                int w = any(4);
                both(what + "count", () -> grid.count(w), () -> model.count(w));
            }
            case 9, 10, 11, 12, 13, 14 -> {
                int k = any(model.count(0));
                int w = any(4);
                both(what + "cell", () -> grid.cell(k, w), () -> model.cell(k, w));
            }
            case 15, 16, 17, 18, 19, 20 -> {
                int face = any(model.count(0) + 1);
                boolean second = random.nextBoolean();
                both(what + "flux", () -> grid.flux(face, second), () -> model.flux(face, second));
            }
            case 21, 22, 23, 24, 25, 26, 27, 28, 29, 30 -> {
                int k = any(model.count(0));
                double h = random.nextBoolean() ? any(0.125, 20.0) : DEPTHS[random.nextInt(DEPTHS.length)];
                double m = any(-50.0, 50.0);
                both(what + "put", () -> nothing(() -> grid.put(k, h, m)),
                        () -> nothing(() -> model.put(k, h, m)));
            }
            default -> {
                double most = random.nextInt(3) == 0 ? any(0.0, 0.02) : any(0.0, 10.0);
                both(what + "step", () -> grid.step(most), () -> model.step(most));
            }
        }
    }

    private interface Answer {
        double give();
    }

    private static double nothing(Checks.Call call) {
        call.make();
        return 0.0;
    }

    private static void both(String what, Answer grid, Answer model) {
        String got = told(grid);
        CHECKS.same(what, got, told(model));
        CHECKS.holds(what + ": a number", !got.equals("NaN") && !got.endsWith("Infinity"));
    }

    private static String told(Answer answer) {
        try {
            // As text, so that the two zeros differ: operations made as they are written have one sign.
            return Double.toString(answer.give());
        } catch (RuntimeException e) {
            return "throws." + e.getClass().getSimpleName();
        }
    }

    private void compareAll() {
        for (int k = 0; k < model.count(0); k++) {
            for (int w = 0; w < 4; w++) {
                int what = w;
                int cell = k;
                both(name + ", cell " + k, () -> grid.cell(cell, what), () -> model.cell(cell, what));
            }
        }
        for (int w = 0; w < 4; w++) {
            CHECKS.same(name + ", count " + w, grid.count(w), model.count(w));
        }
        CHECKS.same(name + ", time", grid.time(), model.time());
    }
}
