import java.util.NoSuchElementException;
import java.util.function.Consumer;
import java.util.function.ObjIntConsumer;
import java.util.function.Supplier;

/**
 * Deals that several tests use, and what can be seen of one. Most are in the group p 23, q 11, g 4, h 9,
 * where h is g^8, so a pair (u, v) fits participant i just when u + 8 v is what i's own share gives,
 * modulo 11.
 */
final class Deals {
    static final Class<IllegalStateException> STATE = IllegalStateException.class;
    static final Class<IllegalArgumentException> ARGUMENT = IllegalArgumentException.class;
    static final Class<NoSuchElementException> MISSING = NoSuchElementException.class;
    static final int LEAST = Integer.MIN_VALUE;
    static final int GREATEST = Integer.MAX_VALUE;

    static final int[] USUAL = {2039, 1019, 4, 9};
    static final int[] SMALL = {23, 11, 4, 9};
    static final int[] LEAST_GROUP = {7, 3, 2, 4};
    static final int[] GREATEST_P = {2147483647, 331, 2255412, 2146777057};
    static final int[] GREATEST_Q = {2147483579, 1073741789, 4, 9};

    private Deals() {
    }

    static DealtSecret in(int[] group) {
        return new DealtSecret(group[0], group[1], group[2], group[3]);
    }

    static DealtSecret small() {
        return in(SMALL);
    }

    static DealtSecret usualAt(int stage) {
        return usualAt(stage, true);
    }

    /**
     * The usual deal of three with threshold 2 has a = 7, 3 and b = 2, 5: commitments 4 and 6, and shares
     * (10, 7), (2, 1), (5, 6), for which u + 8 v is 0, 10, 9. It is brought to the stage without cheating,
     * but to 6 by a share that is never answered.
     */
    static DealtSecret usualAt(int stage, boolean blind) {
        DealtSecret x = small();
        if (stage == 0) {
            return x;
        }
        x.begin(3, 2, blind);
        x.coefficient(0, 7, 2);
        x.coefficient(1, 3, 5);
        if (stage == 6) {
            x.advance();
            x.tamper(1, 0, 1);
        }
        return advanced(x, stage);
    }

    /** A deal whose coefficients are all 0: all commitments are 1, and all shares (0, 0). */
    static DealtSecret zerosAt(int stage, int n, int t) {
        DealtSecret x = small();
        x.begin(n, t, true);
        return advanced(x, stage);
    }

    /** A blind deal of one participant, in stage 2: its share is (a, b), modulo q. */
    static DealtSecret oneParticipant(int[] group, int a, int b) {
        DealtSecret x = in(group);
        x.begin(1, 1, true);
        x.coefficient(0, a, b);
        x.advance();
        return x;
    }

    static DealtSecret advanced(DealtSecret x, int stage) {
        while (x.stage() < stage && x.stage() < 5) {
            x.advance();
        }
        Checks.same("the stage that was wanted", x.stage(), stage);
        return x;
    }

    /** All that can be asked without changing anything, in 55 calls. */
    static String seen(DealtSecret x) {
        StringBuilder text = new StringBuilder();
        text.append(x.stage()).append(' ').append(x.complaints()).append(' ').append(x.opened());
        for (int i = -1; i <= 8; i++) {
            text.append(" | ").append(x.group(i)).append(' ').append(x.commitment(i)).append(' ');
            text.append(x.share(i, 0)).append(' ').append(x.share(i, 1)).append(' ').append(x.fits(i));
        }
        text.append(" secret ").append(Checks.outcome(() -> x.secret()));
        text.append(" relation ").append(Checks.outcome(() -> x.relation()));
        return text.toString();
    }

    static void refused(DealtSecret x, String what, Class<? extends RuntimeException> due, Runnable call) {
        String before = seen(x);
        Checks.refused(what + " in stage " + x.stage(), due, call);
        Checks.same(what + " changes nothing: what is seen", seen(x), before);
    }

    static void refusedAt(int stage, String what, Class<? extends RuntimeException> due,
            Consumer<DealtSecret> call) {
        DealtSecret x = usualAt(stage);
        refused(x, what, due, () -> call.accept(x));
    }

    /** Each on a new object: the numbers least .. most are taken, and what lies beyond is refused. */
    static void bounds(String what, int least, int most, Supplier<DealtSecret> made,
            ObjIntConsumer<DealtSecret> call) {
        for (int number : edges(least, most)) {
            DealtSecret x = made.get();
            if (number >= least && number <= most) {
                Checks.taken(what + " " + number, () -> call.accept(x, number));
            } else {
                refused(x, what + " " + number, ARGUMENT, () -> call.accept(x, number));
            }
        }
    }

    /** The ends of least .. most and of int, and the numbers next to them and, by wrap-around, to those. */
    static int[] edges(int least, int most) {
        return new int[] {
            LEAST, LEAST + 1, least - 2, least - 1, least, least + 1,
            most - 1, most, most + 1, most + 2, GREATEST - 1, GREATEST,
        };
    }
}
