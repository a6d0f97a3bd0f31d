import java.util.concurrent.Callable;

/** Counts answers that are not the ones due, and prints each. */
final class Checks {
    private int wrong = 0;
    private int made = 0;

    void equal(String what, Object got, Object due) {
        made++;
        if (!due.equals(got)) {
            wrong++;
            System.out.println(what + " answered " + got + ", due is " + due);
        }
    }

    void holds(String what, boolean got) {
        equal(what, got, true);
    }

    /** The call must throw an exception of this very class: one of a class below it is the machine's. */
    void fails(String what, Class<? extends Exception> due, Callable<?> call) {
        made++;
        String got;
        try {
            got = "the answer " + call.call();
        } catch (Exception e) {
            if (e.getClass() == due) {
                return;
            }
            got = e.toString();
        }
        wrong++;
        System.out.println(what + " led to " + got + ", due is " + due.getName());
    }

    void end() {
        System.out.println(made + " checks, " + wrong + " wrong");
        if (wrong != 0 || made == 0) {
            System.exit(1);
        }
    }
}
