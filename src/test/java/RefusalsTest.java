import java.util.function.Function;

/**
 * "What throws changes nothing", and what is "false, changing nothing": each such call in each stage. Two
 * objects are brought to the stage by the same calls, one of them gets the call that must change nothing,
 * and then both are played to their end, where all that they answer must be the same: so a change shows
 * too that could not be seen at once. The deal has five participants and threshold 3, with something of
 * every kind in it: 2 is corrupt and accuses, 4 has a bad share, both are answered, 1 lays open two pairs.
 */
public final class RefusalsTest {
    private static final int[] A = {7, 3, 1};
    private static final int[] B = {2, 5, 4};
    private static final int Q = 11;
    private static final int LOG = 8;

    private static final int MANNERS = 12;
    private static final int[] NOBODY = {Deals.LEAST, -1, 0, 6, 7, 8, Deals.GREATEST};
    private static final int[] NO_COEFFICIENT = {Deals.LEAST, -1, 3, 4, 5, 7, Deals.GREATEST};
    private static final int[] NO_ELEMENT = {Deals.LEAST, -1, 0, 23, 24, Deals.GREATEST};

    public static void main(String[] args) {
        playedThroughAllStages();
        begin();
        coefficient();
        advance();
        tamper();
        forge();
        corrupt();
        accuse();
        answer();
        open();
        show();
        secret();
        relation();
        questions();
        Checks.end("RefusalsTest");
    }

    private static int u(int i) {
        return Numbers.valueAt(i, A, Q);
    }

    private static int v(int i, boolean blind) {
        return blind ? Numbers.valueAt(i, B, Q) : 0;
    }

    private static DealtSecret eventfulAt(int stage, boolean blind) {
        DealtSecret x = Deals.small();
        if (stage >= 1) {
            x.begin(5, 3, blind);
            for (int k = 0; k < 3; k++) {
                x.coefficient(k, A[k], B[k]);
            }
            x.corrupt(2);
        }
        if (stage >= 2) {
            x.advance();
            x.tamper(2, u(2) + 1, v(2, blind));
            x.tamper(4, u(4) - 1, 3);
        }
        if (stage >= 3) {
            x.advance();
            x.accuse(2);
        }
        if (stage >= 4) {
            x.advance();
            x.answer(4, u(4), v(4, blind));
        }
        if (stage >= 5) {
            x.answer(2, u(2) + (stage == 5 ? 0 : 1), v(2, blind));
            x.advance();
        }
        if (stage == 5) {
            x.open(1);
            x.show(1, u(1) - LOG, v(1, blind) + 1);
            x.open(3);
        }
        return x;
    }

    /**
     * Plays on to the end and tells every answer, in some 420 calls at most. The manners: with or without
     * asking who is corrupt, with or without accusing, and answering nobody, all, or all but 4, which was
     * answered before if the stage is 4.
     */
    private static String rest(DealtSecret x, boolean blind, int manner) {
        StringBuilder told = new StringBuilder(Deals.seen(x));
        for (int step = 0; step < 4; step++) {
            for (int i = 1; i <= 5; i++) {
                int one = i;
                if ((manner & 1) != 0) {
                    told.append(Checks.outcome(() -> x.corrupt(one)));
                }
                if ((manner & 2) != 0) {
                    told.append(Checks.outcome(() -> x.accuse(one)));
                }
                if (manner / 4 == 1 || manner / 4 == 2 && i != 4) {
                    told.append(Checks.outcome(() -> x.answer(one, u(one), v(one, blind))));
                }
            }
            told.append(Checks.outcome(() -> x.advance())).append(Deals.seen(x));
        }
        for (int i = 5; i >= 1; i--) {
            int one = i;
            told.append(Checks.outcome(() -> x.open(one)));
            told.append(Checks.outcome(() -> x.show(one, u(one) + LOG, v(one, blind) - 1)));
        }
        return told.append(Deals.seen(x)).toString();
    }

    private static void playedThroughAllStages() {
        Checks.about("the deal of this test comes through all stages");
        for (int stage = 0; stage <= 6; stage++) {
            Checks.same("blind", eventfulAt(stage, true).stage(), stage);
            Checks.same("not blind", eventfulAt(stage, false).stage(), stage);
        }
    }

    private static void changesNothing(String what, int stage, String due, Function<DealtSecret, Object> call) {
        for (int manner = 0; manner < MANNERS; manner++) {
            for (boolean blind : new boolean[] {true, false}) {
                DealtSecret touched = eventfulAt(stage, blind);
                DealtSecret untouched = eventfulAt(stage, blind);
                String told = what + " in stage " + stage;
                Checks.same(told, Checks.outcome(() -> call.apply(touched)), due);
                Checks.same(told + " changes nothing", rest(touched, blind, manner), rest(untouched, blind, manner));
            }
        }
    }

    private interface Stages {
        boolean allow(int stage);
    }

    /** Refused by its stage in all stages but those that allow it, and there as it is told. */
    private static void refused(String what, Stages stages, Class<? extends RuntimeException> dueThere,
            Function<DealtSecret, Object> call) {
        for (int stage = 0; stage <= 6; stage++) {
            changesNothing(what, stage, (stages.allow(stage) ? dueThere : Deals.STATE).getName(), call);
        }
    }

    /** Refused by its stage in all stages but those that allow it, and taken there. */
    private static void refusedElsewhere(String what, Stages stages, Function<DealtSecret, Object> call) {
        for (int stage = 0; stage <= 6; stage++) {
            if (stages.allow(stage)) {
                DealtSecret x = eventfulAt(stage, true);
                Checks.taken(what + " in stage " + stage, () -> call.apply(x));
            } else {
                changesNothing(what, stage, Deals.STATE.getName(), call);
            }
        }
    }

    private static Object begun(DealtSecret x, int n, int t, boolean blind) {
        x.begin(n, t, blind);
        return "begun";
    }

    private static void begin() {
        Checks.about("Promise 3: IllegalArgumentException, changing nothing");
        int[][] wrong = {
            {0, 1}, {0, 0}, {-1, 1}, {-1, -1}, {8, 1}, {8, 8}, {9, 3}, {5, 0}, {5, -1}, {5, 6}, {3, 4}, {1, 2}, {7, 8},
            {Deals.LEAST, 1}, {Deals.GREATEST, 1}, {5, Deals.LEAST}, {5, Deals.GREATEST},
            {Deals.LEAST, Deals.LEAST}, {Deals.GREATEST, Deals.GREATEST},
        };
        for (int[] w : wrong) {
            refused("begin " + w[0] + " " + w[1], stage -> true, Deals.ARGUMENT, x -> begun(x, w[0], w[1], true));
            refused("begin " + w[0] + " " + w[1], stage -> true, Deals.ARGUMENT, x -> begun(x, w[0], w[1], false));
        }
        for (int stage = 0; stage <= 6; stage++) {
            DealtSecret x = eventfulAt(stage, true);
            Checks.taken("begin in stage " + stage, () -> x.begin(1, 1, true));
            Checks.same("stage", x.stage(), 1);
        }
    }

    private static Object set(DealtSecret x, int k, int a, int b) {
        x.coefficient(k, a, b);
        return "set";
    }

    private static void coefficient() {
        Checks.about("Promise 4: IllegalStateException when the stage is not PREPARING");
        refusedElsewhere("coefficient", stage -> stage == 1, x -> set(x, 0, 1, 1));
        refusedElsewhere("coefficient", stage -> stage == 1, x -> set(x, 2, 1, 1));
        Checks.about("Promise 4: IllegalArgumentException when k is not 0 .. t - 1");
        for (int k : NO_COEFFICIENT) {
            refused("coefficient " + k, stage -> stage == 1, Deals.ARGUMENT, x -> set(x, k, 1, 1));
        }
    }

    private static void advance() {
        Checks.about("Promise 5: IllegalStateException when the stage is 0, 5 or 6");
        refusedElsewhere("advance", stage -> stage >= 1 && stage <= 4, DealtSecret::advance);
    }

    private static Object tampered(DealtSecret x, int i) {
        x.tamper(i, 1, 1);
        return "tampered";
    }

    private static void tamper() {
        Checks.about("Promise 6: IllegalStateException when the stage is not DEALT");
        for (int i = 1; i <= 5; i++) {
            int one = i;
            refusedElsewhere("tamper " + i, stage -> stage == 2, x -> tampered(x, one));
        }
        Checks.about("Promise 6: IllegalArgumentException when there is no participant i");
        for (int i : NOBODY) {
            refused("tamper " + i, stage -> stage == 2, Deals.ARGUMENT, x -> tampered(x, i));
        }
    }

    private static Object forged(DealtSecret x, int k, int element) {
        x.forge(k, element);
        return "forged";
    }

    private static void forge() {
        Checks.about("Promise 7: IllegalStateException when the stage is not DEALT");
        for (int k = 0; k < 3; k++) {
            int one = k;
            refusedElsewhere("forge " + k, stage -> stage == 2, x -> forged(x, one, 1));
            refusedElsewhere("forge " + k, stage -> stage == 2, x -> forged(x, one, 22));
        }
        Checks.about("Promise 7: IllegalArgumentException when k is not 0 .. t - 1");
        for (int k : NO_COEFFICIENT) {
            refused("forge " + k, stage -> stage == 2, Deals.ARGUMENT, x -> forged(x, k, 1));
            refused("forge " + k + " 0", stage -> stage == 2, Deals.ARGUMENT, x -> forged(x, k, 0));
        }
        Checks.about("Promise 7: IllegalArgumentException when x is not 1 .. p - 1");
        for (int element : NO_ELEMENT) {
            refused("forge 0 " + element, stage -> stage == 2, Deals.ARGUMENT, x -> forged(x, 0, element));
            refused("forge 2 " + element, stage -> stage == 2, Deals.ARGUMENT, x -> forged(x, 2, element));
        }
    }

    private static void corrupt() {
        Checks.about("Promise 8: IllegalStateException when the stage is not PREPARING or DEALT");
        for (int i = 1; i <= 5; i++) {
            int one = i;
            refusedElsewhere("corrupt " + i, stage -> stage == 1 || stage == 2, x -> x.corrupt(one));
        }
        Checks.about("Promise 8: IllegalArgumentException when there is no participant i");
        for (int i : NOBODY) {
            refused("corrupt " + i, stage -> stage == 1 || stage == 2, Deals.ARGUMENT, x -> x.corrupt(i));
        }
        Checks.about("Promise 8: False, changing nothing, if it is already");
        changesNothing("corrupt 2 again", 1, "false", x -> x.corrupt(2));
        changesNothing("corrupt 2 again", 2, "false", x -> x.corrupt(2));
    }

    private static void accuse() {
        Checks.about("Promise 9: IllegalStateException when the stage is not COMPLAINING");
        for (int i = 1; i <= 5; i++) {
            int one = i;
            refusedElsewhere("accuse " + i, stage -> stage == 3, x -> x.accuse(one));
        }
        Checks.about("Promise 9: IllegalArgumentException when there is no participant i");
        for (int i : NOBODY) {
            refused("accuse " + i, stage -> stage == 3, Deals.ARGUMENT, x -> x.accuse(i));
        }
        Checks.about("Promise 9: False, changing nothing, if it is not corrupt or has complained");
        changesNothing("accuse by 1, which is not corrupt", 3, "false", x -> x.accuse(1));
        changesNothing("accuse by 2, which has complained", 3, "false", x -> x.accuse(2));
        changesNothing("accuse by 4, which is not corrupt and has complained", 3, "false", x -> x.accuse(4));
        changesNothing("accuse by 5, which is not corrupt", 3, "false", x -> x.accuse(5));
    }

    private static void answer() {
        Checks.about("Promise 10: IllegalStateException when the stage is not ANSWERING");
        for (int i : new int[] {2, 4}) {
            refusedElsewhere("answer " + i, stage -> stage == 4, x -> x.answer(i, u(i), v(i, true)));
            refusedElsewhere("answer " + i, stage -> stage == 4, x -> x.answer(i, 0, 0));
        }
        Checks.about("Promise 10: NoSuchElementException when it has not complained");
        for (int i : new int[] {1, 3, 5}) {
            refused("answer " + i, stage -> stage == 4, Deals.MISSING, x -> x.answer(i, u(i), v(i, true)));
            refused("answer " + i, stage -> stage == 4, Deals.MISSING, x -> x.answer(i, 0, 0));
        }
        Checks.about("Promise 10: IllegalArgumentException when there is no participant i");
        for (int i : NOBODY) {
            refused("answer " + i, stage -> stage == 4, Deals.ARGUMENT, x -> x.answer(i, 1, 1));
        }
    }

    private static void open() {
        Checks.about("Promise 11: IllegalStateException when the stage is not ACCEPTED");
        for (int i = 1; i <= 5; i++) {
            int one = i;
            refusedElsewhere("open " + i, stage -> stage == 5, x -> x.open(one));
        }
        Checks.about("Promise 11: IllegalArgumentException when there is no participant i");
        for (int i : NOBODY) {
            refused("open " + i, stage -> stage == 5, Deals.ARGUMENT, x -> x.open(i));
        }
    }

    private static void show() {
        Checks.about("Promise 12: Exceptions as for open");
        for (int i = 1; i <= 5; i++) {
            int one = i;
            refusedElsewhere("show " + i, stage -> stage == 5, x -> x.show(one, u(one), v(one, true)));
        }
        for (int i : NOBODY) {
            refused("show " + i, stage -> stage == 5, Deals.ARGUMENT, x -> x.show(i, 1, 1));
        }
        Checks.about("Promise 12: whether it fits; one that does not is not kept");
        for (int i = 1; i <= 5; i++) {
            int one = i;
            changesNothing("show " + i + " of a bad pair", 5, "false", x -> x.show(one, u(one) + 1, x.share(one, 1)));
            changesNothing("show " + i + " of a bad pair", 5, "false", x -> x.show(one, u(one), x.share(one, 1) + 1));
        }
    }

    private static void secret() {
        Checks.about("Promise 13: NoSuchElementException when fewer than t have one");
        refused("secret with two of three", stage -> stage == 5, Deals.MISSING, DealtSecret::secret);
        Checks.about("Promise 13: IllegalStateException when the stage is not ACCEPTED");
        refusedElsewhere("secret after one more", stage -> stage == 5, x -> {
            if (x.stage() == 5) {
                x.open(5);
            }
            return x.secret();
        });
    }

    private static void relation() {
        Checks.about("Promise 14: IllegalStateException when the stage is not ACCEPTED");
        refusedElsewhere("relation", stage -> stage == 5, DealtSecret::relation);
        Checks.about("Promise 14: NoSuchElementException when there is none");
        for (int stage = 0; stage <= 6; stage++) {
            Deals.refusedAt(stage, "relation", stage == 5 ? Deals.MISSING : Deals.STATE, DealtSecret::relation);
        }
    }

    private static void questions() {
        Checks.about("what is only asked changes nothing");
        for (int stage = 0; stage <= 6; stage++) {
            for (int number : new int[] {Deals.LEAST, -1, 0, 1, 2, 3, 4, 5, 6, 7, 8, Deals.GREATEST}) {
                changesNothing("questions with " + number, stage, "asked", x -> {
                    x.group(number);
                    x.commitment(number);
                    x.share(number, 0);
                    x.share(number, 1);
                    x.share(1, number);
                    x.fits(number);
                    x.stage();
                    x.complaints();
                    x.opened();
                    return "asked";
                });
            }
        }
    }
}
