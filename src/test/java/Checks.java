/** Counts the checks of one test class and prints those that are not as due. */
final class Checks {
    interface Call {
        void make();
    }

    private int made = 0;
    private int wrong = 0;

    void same(String what, double got, double due) {
        made++;
        if (!(got == due)) {
            wrong++;
            System.out.println(what + " answered " + got + ", due is " + due);
        }
    }

    void same(String what, String got, String due) {
        made++;
        if (!got.equals(due)) {
            wrong++;
            System.out.println(what + " answered " + got + ", due is " + due);
        }
    }

    void holds(String what, boolean held) {
        made++;
        if (!held) {
            wrong++;
            System.out.println(what + " does not hold");
        }
    }

    void throwsIt(String what, Class<? extends RuntimeException> due, Call call) {
        made++;
        String got = "nothing";
        try {
            call.make();
        } catch (RuntimeException e) {
            if (e.getClass() == due) {
                return;
            }
            got = e.getClass().getName();
        }
        wrong++;
        System.out.println(what + " threw " + got + ", due is " + due.getName());
    }

    /** Prints the outcome and ends the program, with exit code 1 if a check was wrong. */
    void end() {
        System.out.println(made + " checks, " + wrong + " wrong");
        System.exit(wrong == 0 && made > 0 ? 0 : 1);
    }
}
