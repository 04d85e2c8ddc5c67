import java.util.function.Supplier;

/** Counts the answers that are not the ones that are due, and tells each. */
final class Checks {
    private static int made = 0;
    private static int wrong = 0;
    private static String sentence = "";
    private static int madeBeforeSentence = -1;

    private Checks() {
    }

    /** What the checks from here on test, as the document says it; one without a check is a fault. */
    static void about(String words) {
        endSentence();
        sentence = words;
        madeBeforeSentence = made;
    }

    private static void endSentence() {
        if (made == madeBeforeSentence) {
            wrong("has no check");
        }
    }

    private static void wrong(String told) {
        wrong++;
        System.out.println(sentence.isEmpty() ? told : "[" + sentence + "] " + told);
    }

    static void same(String what, long got, long due) {
        made++;
        if (got != due) {
            wrong(what + " answered " + got + ", due is " + due);
        }
    }

    static void same(String what, String got, String due) {
        made++;
        if (!got.equals(due)) {
            wrong(what + " gave " + got + ", due is " + due);
        }
    }

    static void same(String what, boolean got, boolean due) {
        same(what, got ? 1 : 0, due ? 1 : 0);
    }

    static void yes(String what, boolean got) {
        same(what, got, true);
    }

    static void no(String what, boolean got) {
        same(what, got, false);
    }

    /** The class must be the very one that is named, not one that extends it. */
    static void refused(String what, Class<? extends RuntimeException> due, Runnable call) {
        same(what, outcome(call), due.getName());
    }

    static void taken(String what, Runnable call) {
        same(what, outcome(call), "an answer");
    }

    private static String outcome(Runnable call) {
        return outcome(() -> {
            call.run();
            return "an answer";
        });
    }

    static String outcome(Supplier<Object> call) {
        try {
            return String.valueOf(call.get());
        } catch (RuntimeException e) {
            return e.getClass().getName();
        }
    }

    static void end(String test) {
        endSentence();
        System.out.println(test + ": " + made + " checks, " + wrong + " wrong");
        if (wrong != 0 || made == 0) {
            System.exit(1);
        }
    }
}
