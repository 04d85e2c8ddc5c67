/** Counts the answers that are not the ones that are due, and tells each. */
final class Checks {
    private static int made = 0;
    private static int wrong = 0;

    private Checks() {
    }

    static void same(String what, long got, long due) {
        made++;
        if (got != due) {
            wrong++;
            System.out.println(what + " answered " + got + ", due is " + due);
        }
    }

    static void yes(String what, boolean got) {
        same(what, got ? 1 : 0, 1);
    }

    static void no(String what, boolean got) {
        same(what, got ? 1 : 0, 0);
    }

    /** The class must be the very one that is named, not one that extends it. */
    static void refused(String what, Class<? extends RuntimeException> due, Runnable call) {
        made++;
        String got = outcome(call);
        if (!got.equals(due.getName())) {
            wrong++;
            System.out.println(what + " gave " + got + ", due is " + due.getName());
        }
    }

    private static String outcome(Runnable call) {
        try {
            call.run();
            return "an answer";
        } catch (RuntimeException e) {
            return e.getClass().getName();
        }
    }

    static void end(String test) {
        System.out.println(test + ": " + made + " checks, " + wrong + " wrong");
        if (wrong != 0 || made == 0) {
            System.exit(1);
        }
    }
}
