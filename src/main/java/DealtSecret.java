import java.util.Arrays;
import java.util.NoSuchElementException;

/**
 * A secret dealt out to participants so that some of them together can find it again, by a dealer
 * that has committed itself to a polynomial and is disqualified if it cannot answer complaints.
 */
public final class DealtSecret {
    private static final int MOST_PARTICIPANTS = 7;

    private static final int PREPARING = 1;
    private static final int DEALT = 2;
    private static final int COMPLAINING = 3;
    private static final int ANSWERING = 4;
    private static final int ACCEPTED = 5;
    private static final int DISQUALIFIED = 6;

    private final Group group;
    private final int[] a;
    private final int[] b;
    private final int[] published;
    private final Participant[] participants;

    private int stage;
    private int n;
    private int t;
    private boolean blind;
    private boolean related;
    private int relation;

    public DealtSecret(int p, int q, int g, int h) {
        group = Group.told(p, q, g, h);
        a = new int[MOST_PARTICIPANTS];
        b = new int[MOST_PARTICIPANTS];
        published = new int[MOST_PARTICIPANTS];
        participants = new Participant[MOST_PARTICIPANTS];
        for (int i = 1; i <= MOST_PARTICIPANTS; i++) {
            participants[i - 1] = new Participant(i);
        }
    }

    public int group(int what) {
        switch (what) {
            case 0: return group.p;
            case 1: return group.q;
            case 2: return group.g;
            case 3: return group.h;
            default: return 0;
        }
    }

    public void begin(int n, int t, boolean blind) throws IllegalArgumentException {
        if (n < 1 || n > MOST_PARTICIPANTS || t < 1 || t > n || group.q <= n) {
            throw new IllegalArgumentException("no deal has these numbers");
        }
        this.n = n;
        this.t = t;
        this.blind = blind;
        Arrays.fill(a, 0);
        Arrays.fill(b, 0);
        for (int i = 0; i < n; i++) {
            participants[i].startAnew();
        }
        related = false;
        stage = PREPARING;
    }

    public void coefficient(int k, int a, int b) throws IllegalStateException, IllegalArgumentException {
        demandStage(PREPARING);
        demandCoefficient(k);
        this.a[k] = group.number(a);
        this.b[k] = blindNumber(b);
    }

    public int advance() throws IllegalStateException {
        switch (stage) {
            case PREPARING:
                publishCommitments();
                sendShares();
                stage = DEALT;
                break;
            case DEALT:
                raiseComplaints();
                stage = COMPLAINING;
                break;
            case COMPLAINING:
                stage = complaints() >= t ? DISQUALIFIED : ANSWERING;
                break;
            case ANSWERING:
                stage = isEveryComplaintAnswered() ? ACCEPTED : DISQUALIFIED;
                break;
            default:
                throw new IllegalStateException("no stage follows this one");
        }
        return stage;
    }

    public void tamper(int i, int u, int v) throws IllegalStateException, IllegalArgumentException {
        demandStage(DEALT);
        demandParticipant(i);
        participants[i - 1].receive(group.number(u), blindNumber(v));
    }

    public void forge(int k, int x) throws IllegalStateException, IllegalArgumentException {
        demandStage(DEALT);
        demandCoefficient(k);
        if (x < 1 || x >= group.p) {
            throw new IllegalArgumentException("a commitment is 1 .. p - 1");
        }
        published[k] = x;
    }

    public boolean corrupt(int i) throws IllegalStateException, IllegalArgumentException {
        if (stage != PREPARING && stage != DEALT) {
            throw new IllegalStateException("the stage is another");
        }
        demandParticipant(i);
        Participant one = participants[i - 1];
        boolean changes = !one.corrupt;
        one.corrupt = true;
        return changes;
    }

    public boolean accuse(int i) throws IllegalStateException, IllegalArgumentException {
        demandStage(COMPLAINING);
        demandParticipant(i);
        Participant one = participants[i - 1];
        if (!one.corrupt || one.complains) {
            return false;
        }
        one.complains = true;
        return true;
    }

    public boolean answer(int i, int u, int v)
            throws IllegalStateException, IllegalArgumentException, NoSuchElementException {
        demandStage(ANSWERING);
        demandParticipant(i);
        Participant one = participants[i - 1];
        if (!one.complains) {
            throw new NoSuchElementException("this participant has not complained");
        }
        one.receive(group.number(u), blindNumber(v));
        one.answered = isShareRight(one);
        return one.answered;
    }

    public boolean open(int i) throws IllegalStateException, IllegalArgumentException {
        demandStage(ACCEPTED);
        demandParticipant(i);
        Participant one = participants[i - 1];
        return layOpen(one, one.u, one.v);
    }

    public boolean show(int i, int u, int v) throws IllegalStateException, IllegalArgumentException {
        demandStage(ACCEPTED);
        demandParticipant(i);
        return layOpen(participants[i - 1], group.number(u), group.number(v));
    }

    public int secret() throws IllegalStateException, NoSuchElementException {
        demandStage(ACCEPTED);
        if (opened() < t) {
            throw new NoSuchElementException("too few pairs are open");
        }
        int last = lastOfTheChosen();
        int sum = 0;
        for (int i = 1; i <= last; i++) {
            if (participants[i - 1].kept) {
                int part = group.times(participants[i - 1].keptU, weightAtZero(i, last));
                sum = group.plus(sum, part);
            }
        }
        return sum;
    }

    public int relation() throws IllegalStateException, NoSuchElementException {
        demandStage(ACCEPTED);
        if (!related) {
            throw new NoSuchElementException("no two pairs tell the relation");
        }
        return relation;
    }

    public int stage() {
        return stage;
    }

    public int commitment(int k) {
        return isDealt() && isCoefficient(k) ? published[k] : 0;
    }

    public int share(int i, int what) {
        if (!isDealt() || !isParticipant(i)) {
            return -1;
        }
        switch (what) {
            case 0: return participants[i - 1].u;
            case 1: return participants[i - 1].v;
            default: return -1;
        }
    }

    public boolean fits(int i) {
        return isDealt() && isParticipant(i) && isShareRight(participants[i - 1]);
    }

    public int complaints() {
        int count = 0;
        for (int i = 0; i < n; i++) {
            if (participants[i].complains) {
                count++;
            }
        }
        return count;
    }

    public int opened() {
        int count = 0;
        for (int i = 0; i < n; i++) {
            if (participants[i].kept) {
                count++;
            }
        }
        return count;
    }

    private void demandStage(int wanted) throws IllegalStateException {
        if (stage != wanted) {
            throw new IllegalStateException("the stage is another");
        }
    }

    private void demandParticipant(int i) throws IllegalArgumentException {
        if (!isParticipant(i)) {
            throw new IllegalArgumentException("there is no such participant");
        }
    }

    private void demandCoefficient(int k) throws IllegalArgumentException {
        if (!isCoefficient(k)) {
            throw new IllegalArgumentException("there is no such coefficient");
        }
    }

    private boolean isParticipant(int i) {
        return i >= 1 && i <= n;
    }

    private boolean isCoefficient(int k) {
        return k >= 0 && k < t;
    }

    private boolean isDealt() {
        return stage >= DEALT;
    }

    private int blindNumber(int x) {
        return blind ? group.number(x) : 0;
    }

    private void publishCommitments() {
        for (int k = 0; k < t; k++) {
            published[k] = group.commit(a[k], b[k]);
        }
    }

    private void sendShares() {
        for (int i = 1; i <= n; i++) {
            participants[i - 1].receive(valueAt(i, a), valueAt(i, b));
        }
    }

    private int valueAt(int i, int[] coefficients) {
        int value = 0;
        for (int k = t - 1; k >= 0; k--) {
            value = group.plus(group.times(value, i), coefficients[k]);
        }
        return value;
    }

    private void raiseComplaints() {
        for (int i = 0; i < n; i++) {
            Participant one = participants[i];
            one.complains = !one.corrupt && !isShareRight(one);
        }
    }

    private boolean isEveryComplaintAnswered() {
        for (int i = 0; i < n; i++) {
            if (participants[i].complains && !participants[i].answered) {
                return false;
            }
        }
        return true;
    }

    private boolean isShareRight(Participant one) {
        return isPairRight(one, one.u, one.v);
    }

    private boolean isPairRight(Participant one, int u, int v) {
        return group.commit(u, v) == publishedAt(one.number);
    }

    /**
     * Powers of powers, because a forged commitment may lie outside the subgroup of order q, where
     * an exponent i^k that was reduced modulo q would give another product.
     */
    private int publishedAt(int i) {
        int product = 1;
        for (int k = t - 1; k >= 0; k--) {
            product = group.product(group.power(product, i), published[k]);
        }
        return product;
    }

    private boolean layOpen(Participant one, int u, int v) {
        if (!isPairRight(one, u, v)) {
            return false;
        }
        if (!one.kept) {
            one.keep(u, v);
        } else if (!related && v != one.keptV) {
            related = true;
            relation = group.quotient(group.minus(one.keptU, u), group.minus(v, one.keptV));
        }
        return true;
    }

    /** The t-th participant that has a kept pair: the chosen ones are those up to it. */
    private int lastOfTheChosen() {
        int missing = t;
        int i = 0;
        while (i < n && missing > 0) {
            if (participants[i].kept) {
                missing--;
            }
            i++;
        }
        return i;
    }

    /** What the value at i counts in the value at 0, by Lagrange's rule over the chosen ones. */
    private int weightAtZero(int i, int last) {
        int above = 1;
        int below = 1;
        for (int j = 1; j <= last; j++) {
            if (j != i && participants[j - 1].kept) {
                above = group.times(above, j);
                below = group.times(below, group.minus(j, i));
            }
        }
        return group.quotient(above, below);
    }

    /** Group elements modulo p, and the numbers modulo q that are their exponents. */
    private static final class Group {
        private static final int USUAL_P = 2039;
        private static final int USUAL_Q = 1019;
        private static final int USUAL_G = 4;
        private static final int USUAL_H = 9;

        final int p;
        final int q;
        final int g;
        final int h;

        private Group(int p, int q, int g, int h) {
            this.p = p;
            this.q = q;
            this.g = g;
            this.h = h;
        }

        static Group told(int p, int q, int g, int h) {
            return isSound(p, q, g, h)
                    ? new Group(p, q, g, h)
                    : new Group(USUAL_P, USUAL_Q, USUAL_G, USUAL_H);
        }

        /** The primes come last, because they take the most time to test. */
        private static boolean isSound(int p, int q, int g, int h) {
            return p >= 2 && q >= 2 && (p - 1) % q == 0
                    && g != h && isElement(g, p, q) && isElement(h, p, q)
                    && isPrime(q) && isPrime(p);
        }

        private static boolean isElement(int x, int p, int q) {
            return x >= 2 && x < p && powerModulo(x, q, p) == 1;
        }

        private static boolean isPrime(int x) {
            if (x < 2 || x % 2 == 0) {
                return x == 2;
            }
            // d against x / d, because d * d may be more than an int holds
            for (int d = 3; d <= x / d; d += 2) {
                if (x % d == 0) {
                    return false;
                }
            }
            return true;
        }

        private static int powerModulo(int base, int exponent, int modulus) {
            long result = 1;
            long square = base;
            for (int rest = exponent; rest > 0; rest >>= 1) {
                if ((rest & 1) == 1) {
                    result = result * square % modulus;
                }
                square = square * square % modulus;
            }
            return (int) result;
        }

        int commit(int u, int v) {
            return product(power(g, u), power(h, v));
        }

        int power(int element, int exponent) {
            return powerModulo(element, exponent, p);
        }

        int product(int one, int other) {
            return (int) ((long) one * other % p);
        }

        int number(int x) {
            return Math.floorMod(x, q);
        }

        int plus(int x, int y) {
            return (int) (((long) x + y) % q);
        }

        int minus(int x, int y) {
            return number(x - y);
        }

        int times(int x, int y) {
            return (int) ((long) x * y % q);
        }

        /** By Fermat's rule, as q is prime; y is not 0. */
        int quotient(int x, int y) {
            return times(x, powerModulo(y, q - 2, q));
        }
    }

    /** What one participant got, did and laid open in the deal. */
    private static final class Participant {
        final int number;
        int u;
        int v;
        boolean corrupt;
        boolean complains;
        boolean answered;
        boolean kept;
        int keptU;
        int keptV;

        Participant(int number) {
            this.number = number;
        }

        void startAnew() {
            corrupt = false;
            complains = false;
            answered = false;
            kept = false;
        }

        void receive(int u, int v) {
            this.u = u;
            this.v = v;
        }

        void keep(int u, int v) {
            kept = true;
            keptU = u;
            keptV = v;
        }
    }
}
