import java.math.BigInteger;

/** The sentences of the document's "Terms" that name a boundary, each on both sides of it. */
public final class TermsTest {
    private static final int[] USUAL = {2039, 1019, 4, 9};
    private static final int[] LEAST_GROUP = {7, 3, 2, 4};
    private static final int[] SMALL = {23, 11, 4, 9};
    private static final int[] GREATEST_P = {2147483647, 331, 2255412, 2146777057};
    private static final int[] GREATEST_Q = {2147483579, 1073741789, 4, 9};
    private static final int[][] GROUPS = {LEAST_GROUP, {11, 5, 3, 4}, {71, 7, 20, 30}, SMALL, USUAL, GREATEST_P,
        GREATEST_Q};

    public static void main(String[] args) {
        primes();
        lessThanTwoToThe31();
        divides();
        elements();
        notTheSame();
        powersAreOne();
        allSmallNumbers();
        theUsualGroupInItsPlace();
        elementsModuloP();
        coefficientsModuloQ();
        tamperedModuloQ();
        answeredModuloQ();
        shownModuloQ();
        sharesModuloQ();
        secretModuloQ();
        zeroAtFirst();
        notBlind();
        wholeExponents();
        wholeExponentsOfPairsThatFit();
        whoComplains();
        tOrMore();
        everyComplaintAnswered();
        latestAnswerCounts();
        latestAnswerIsTheShare();
        exceptionNamedFirst();
        firstThatFitsIsKept();
        relationNeedsTwoPairsOfOne();
        relationModuloQ();
        relationOfTheFirstTwo();
        Checks.end("TermsTest");
    }

    // ---- the group

    private static boolean isPrime(int x) {
        return x > 1 && Numbers.big(x).isProbablePrime(60);
    }

    private static boolean isOne(int x, int[] s) {
        return s[0] > 1 && s[1] > 0 && Numbers.big(x).modPow(Numbers.big(s[1]), Numbers.big(s[0])).equals(BigInteger.ONE);
    }

    /** Which of the document's conditions do not hold, a letter for each. */
    private static String lacking(int[] s) {
        String lacks = isPrime(s[0]) ? "" : "p";
        lacks += isPrime(s[1]) ? "" : "q";
        lacks += s[1] != 0 && Math.floorMod((long) s[0] - 1, (long) s[1]) == 0 ? "" : "d";
        lacks += 2 <= s[2] && s[2] <= s[0] - 1L ? "" : "g";
        lacks += 2 <= s[3] && s[3] <= s[0] - 1L ? "" : "h";
        lacks += s[2] != s[3] ? "" : "s";
        lacks += isOne(s[2], s) ? "" : "G";
        lacks += isOne(s[3], s) ? "" : "H";
        return lacks;
    }

    private static void checkGroup(int[] told, int[] due) {
        DealtSecret x = Deals.in(told);
        String name = told[0] + " " + told[1] + " " + told[2] + " " + told[3] + ": group ";
        for (int what = 0; what < 4; what++) {
            Checks.same(name + what, x.group(what), due[what]);
        }
    }

    private static void sound(int p, int q, int g, int h) {
        int[] told = {p, q, g, h};
        Checks.same("the test's own numbers lack", lacking(told), "");
        checkGroup(told, told);
    }

    private static void unsound(String lacks, int p, int q, int g, int h) {
        int[] told = {p, q, g, h};
        Checks.same("the test's own numbers lack", lacking(told), lacks);
        checkGroup(told, USUAL);
    }

    private static void primes() {
        Checks.about("p and q are primes");
        sound(7, 3, 2, 4);
        sound(13, 3, 3, 9);
        unsound("p", 28, 3, 9, 25);
        unsound("p", 49, 3, 18, 30);
        unsound("p", 91, 3, 16, 9);
        unsound("p", 169, 3, 22, 146);
        unsound("p", 961, 3, 439, 521);
        unsound("p", 2147117569, 181, 2379923, 1926704189);
        sound(11, 5, 3, 4);
        unsound("q", 5, 4, 2, 3);
        unsound("q", 19, 9, 4, 5);
        unsound("q", 31, 15, 2, 4);
        unsound("q", 101, 25, 16, 81);
        unsound("q", 197, 49, 16, 81);
        unsound("q", 2142393797, 535598449, 16, 81);
        unsound("q", 2147483647, 2147483646, 2, 3);
        unsound("qGH", 23, 1, 4, 9);
        unsound("qGH", 23, -11, 4, 9);
        unsound("qdGH", 23, 0, 4, 9);
        unsound("pghGH", -23, 3, 4, 9);
        unsound("pghGH", 1, 3, 4, 9);
        unsound("pdghGH", 0, 3, 4, 9);
        unsound("pqghGH", 0, -1, 4, 9);
        unsound("pqdghGH", 0, 0, 4, 9);
        unsound("pqghGH", Deals.LEAST, -1, 4, 9);
        unsound("pqdghGH", Deals.LEAST, Deals.LEAST, 4, 9);
        unsound("qdGH", Deals.GREATEST, Deals.LEAST, 4, 9);
    }

    private static void lessThanTwoToThe31() {
        Checks.about("p is less than 2^31: the greatest p and q that an int holds, and beyond them");
        sound(2147483647, 3, 634005911, 1513477735);
        sound(2147483647, 331, 2255412, 2146777057);
        sound(2147483579, 1073741789, 4, 9);
        unsound("pdghGH", (int) 2147483659L, 3, 634005911, 1513477735);
        unsound("pqdghGH", Deals.LEAST, 0, 2, 4);
        unsound("qdgGH", Deals.GREATEST, Deals.LEAST, Deals.GREATEST, 2);
    }

    private static void divides() {
        Checks.about("q divides p - 1");
        sound(23, 11, 4, 9);
        unsound("dGH", 23, 13, 4, 9);
        unsound("dGH", 23, 7, 4, 9);
        unsound("dGH", 23, 23, 4, 9);
        unsound("dGH", 7, 5, 2, 4);
        unsound("dGH", 2147483579, 2147483579, 4, 9);
        unsound("dGH", 2147483579, 2147483647, 4, 9);
    }

    private static void elements() {
        Checks.about("g and h are 2 .. p - 1");
        sound(23, 11, 2, 18);
        sound(23, 11, 18, 2);
        sound(11, 5, 9, 3);
        sound(11, 5, 3, 9);
        sound(2147483647, 31, 2, 1073741824);
        unsound("g", 23, 11, 1, 9);
        unsound("h", 23, 11, 4, 1);
        unsound("gG", 23, 11, 0, 9);
        unsound("hH", 23, 11, 4, 0);
        unsound("g", 23, 11, 1 - 23, 9);
        unsound("h", 23, 11, 4, 1 - 23);
        unsound("g", 23, 11, 4 - 23, 9);
        unsound("h", 23, 11, 4, 9 - 23);
        unsound("G", 23, 11, 22, 9);
        unsound("H", 23, 11, 4, 22);
        unsound("gG", 23, 11, 23, 9);
        unsound("hH", 23, 11, 4, 23);
        unsound("g", 23, 11, 24, 9);
        unsound("h", 23, 11, 4, 24);
        unsound("g", 23, 11, 25, 9);
        unsound("h", 23, 11, 4, 23 + 9);
        unsound("gG", 2147483647, 331, 2147483647, 2146777057);
        unsound("hH", 2147483647, 331, 2255412, 2147483647);
        unsound("gG", 23, 11, Deals.LEAST, 9);
        unsound("hH", 23, 11, 4, Deals.LEAST);
        unsound("g", 23, 11, Deals.GREATEST - 1, 9);
        unsound("h", 23, 11, 4, Deals.GREATEST - 1);
    }

    private static void notTheSame() {
        Checks.about("g and h are not the same");
        sound(23, 11, 4, 3);
        unsound("s", 23, 11, 4, 4);
        unsound("s", 23, 11, 18, 18);
        unsound("s", 3, 2, 2, 2);
        unsound("s", 2147483647, 2, 2147483646, 2147483646);
    }

    private static void powersAreOne() {
        Checks.about("the powers g^q and h^q are 1 modulo p");
        sound(23, 11, 4, 9);
        unsound("G", 23, 11, 5, 9);
        unsound("H", 23, 11, 4, 5);
        unsound("GH", 23, 11, 5, 7);
        unsound("G", 2147483647, 331, 2255413, 2146777057);
        unsound("H", 2147483647, 331, 2255412, 2146777058);
        unsound("G", 2147483579, 1073741789, 2147483579 - 4, 9);
        unsound("H", 2147483579, 1073741789, 4, 2147483579 - 9);
    }

    private static void allSmallNumbers() {
        Checks.about("If not all of this holds, it is p = 2039, q = 1019, g = 4, h = 9: all small numbers");
        int count = 0;
        for (int p = -2; p <= 32; p++) {
            for (int q = -2; q <= 16; q++) {
                for (int g = -1; g <= p + 2; g++) {
                    for (int h = -1; h <= p + 2; h++) {
                        int[] told = {p, q, g, h};
                        boolean sound = lacking(told).isEmpty();
                        checkGroup(told, sound ? told : USUAL);
                        count += sound ? 1 : 0;
                    }
                }
            }
        }
        Checks.same("how many of them are sound", count, 152);
    }

    private static void theUsualGroupInItsPlace() {
        Checks.about("If not all of this holds, it is p = 2039, q = 1019, g = 4, h = 9: deals are made in it");
        DealtSecret x = new DealtSecret(23, 11, 4, 4);
        x.begin(1, 1, true);
        x.coefficient(0, -1, 1019);
        x.advance();
        Checks.same("-1 modulo 1019", x.share(1, 0), 1018);
        Checks.same("1019 modulo 1019", x.share(1, 1), 0);
        Checks.same("4^1018 modulo 2039", x.commitment(0), Numbers.commit(USUAL, 1018, 0));
        x.forge(0, 2038);
        Checks.same("the greatest element", x.commitment(0), 2038);
        Deals.refused(x, "forge to p", Deals.ARGUMENT, () -> x.forge(0, 2039));
    }

    // ---- powers, products, numbers

    private static void elementsModuloP() {
        Checks.about("Powers and products of group elements are modulo p (0 .. p - 1)");
        for (int[] group : GROUPS) {
            int q = group[1];
            for (int a : new int[] {0, 1, 2, q / 2, q - 2, q - 1}) {
                for (int b : new int[] {0, 1, 2, q / 2, q - 2, q - 1}) {
                    DealtSecret x = oneParticipant(group, a, b);
                    Checks.same("commitment to " + a + " " + b, x.commitment(0), Numbers.commit(group, a, b));
                    Checks.yes("the share fits", x.fits(1));
                }
            }
        }
    }

    private static DealtSecret oneParticipant(int[] group, int a, int b) {
        DealtSecret x = Deals.in(group);
        x.begin(1, 1, true);
        x.coefficient(0, a, b);
        x.advance();
        return x;
    }

    /** Ints round 0 and round multiples of q, below and above, and the ends of int. */
    private static int[] ints(int q) {
        int most = Deals.GREATEST / q * q;
        return new int[] {
            Deals.LEAST, Deals.LEAST + 1, -most - 1, -most, -most + 1, -q - 1, -q, -q + 1, -2, -1,
            0, 1, q - 1, q, q + 1, most - 1, most, most == Deals.GREATEST ? 0 : most + 1,
            Deals.GREATEST - 1, Deals.GREATEST,
        };
    }

    private interface TwoInts {
        void check(int[] group, int u, int v);
    }

    private static void withInts(TwoInts one) {
        for (int[] group : GROUPS) {
            for (int x : ints(group[1])) {
                one.check(group, x, 1);
                one.check(group, 1, x);
                one.check(group, x, -1 - x);
            }
        }
    }

    private static void coefficientsModuloQ() {
        Checks.about("other numbers modulo q (0 .. q - 1; an int that is less than 0 too): coefficient");
        withInts((group, a, b) -> {
            DealtSecret x = oneParticipant(group, a, b);
            checkShare(x, group, a, b);
            int due = Numbers.commit(group, Numbers.modulo(a, group[1]), Numbers.modulo(b, group[1]));
            Checks.same("commitment to " + a + " " + b, x.commitment(0), due);
        });
    }

    private static void checkShare(DealtSecret x, int[] group, int u, int v) {
        Checks.same(u + " modulo " + group[1], x.share(1, 0), Numbers.modulo(u, group[1]));
        Checks.same(v + " modulo " + group[1], x.share(1, 1), Numbers.modulo(v, group[1]));
    }

    private static void tamperedModuloQ() {
        Checks.about("other numbers modulo q (0 .. q - 1; an int that is less than 0 too): tamper");
        withInts((group, u, v) -> {
            DealtSecret x = oneParticipant(group, u, v);
            x.tamper(1, u, v);
            checkShare(x, group, u, v);
            Checks.yes("the same pair fits", x.fits(1));
            x.tamper(1, next(u), v);
            checkShare(x, group, next(u), v);
            Checks.no("another does not", x.fits(1));
        });
    }

    private static int next(int x) {
        return x == Deals.GREATEST ? x - 1 : x + 1;
    }

    private static void answeredModuloQ() {
        Checks.about("other numbers modulo q (0 .. q - 1; an int that is less than 0 too): answer");
        withInts((group, u, v) -> {
            DealtSecret x = Deals.in(group);
            x.begin(2, 2, true);
            x.coefficient(0, u, v);
            x.advance();
            x.tamper(1, next(u), v);
            Deals.advanced(x, 4);
            Checks.yes("answer with the right pair", x.answer(1, u, v));
            checkShare(x, group, u, v);
            Checks.no("answer with another", x.answer(1, u, next(v)));
            checkShare(x, group, u, next(v));
        });
    }

    private static void shownModuloQ() {
        Checks.about("other numbers modulo q (0 .. q - 1; an int that is less than 0 too): show");
        withInts((group, u, v) -> {
            DealtSecret x = Deals.advanced(oneParticipant(group, u, v), 5);
            Checks.no("show of another pair", x.show(1, next(u), v));
            Checks.no("show of another pair", x.show(1, u, next(v)));
            Checks.yes("show of the right pair", x.show(1, u, v));
            Checks.same("the kept number", x.secret(), Numbers.modulo(u, group[1]));
            Checks.yes("open of the same", x.open(1));
            Checks.refused("relation", Deals.MISSING, x::relation);
        });
    }

    /** The least, the greatest and other coefficients, t of them. */
    private static int[] coefficients(int t, int q, int kind) {
        int[] all = new int[t];
        for (int k = 0; k < t; k++) {
            all[k] = kind == 0 ? q - 1 : kind == 1 ? (k == t - 1 ? q - 1 : 0) : (q - 1) / (k + 1);
        }
        return all;
    }

    /** As many participants as q allows, t of them needed, brought to stage 5. */
    private static DealtSecret fullDeal(int[] group, int n, int[] a, int[] b) {
        DealtSecret x = Deals.in(group);
        x.begin(n, a.length, true);
        for (int k = 0; k < a.length; k++) {
            x.coefficient(k, a[k], b[k]);
        }
        return Deals.advanced(x, 5);
    }

    private static void sharesModuloQ() {
        Checks.about("u = the sum of a(k) * i^k, and v = the sum of b(k) * i^k, modulo q");
        for (int[] group : GROUPS) {
            int q = group[1];
            int n = Math.min(7, q - 1);
            for (int t = 1; t <= n; t++) {
                for (int kind = 0; kind < 3; kind++) {
                    int[] a = coefficients(t, q, kind);
                    int[] b = coefficients(t, q, 2 - kind);
                    DealtSecret x = fullDeal(group, n, a, b);
                    for (int i = 1; i <= n; i++) {
                        Checks.same("u of " + i, x.share(i, 0), Numbers.valueAt(i, a, q));
                        Checks.same("v of " + i, x.share(i, 1), Numbers.valueAt(i, b, q));
                        Checks.yes("fits " + i, x.fits(i));
                    }
                }
            }
        }
    }

    private static void secretModuloQ() {
        Checks.about("the first numbers of these pairs (modulo q): the secret is 0 .. q - 1, from the highest and lowest");
        for (int[] group : GROUPS) {
            int q = group[1];
            int n = Math.min(7, q - 1);
            for (int t = 1; t <= n; t++) {
                for (int kind = 0; kind < 3; kind++) {
                    int[] a = coefficients(t, q, kind);
                    DealtSecret x = fullDeal(group, n, a, a);
                    for (int i = n; i >= 1; i--) {
                        Checks.yes("open " + i, x.open(i));
                        if (i <= n - t + 1) {
                            Checks.same("the secret from " + i + " and " + (t - 1) + " above", x.secret(), a[0]);
                        }
                    }
                }
            }
        }
    }

    // ---- the deal

    private static void zeroAtFirst() {
        Checks.about("It has COEFFICIENTS a(0) .. a(t - 1) and b(0) .. b(t - 1), all 0 at first");
        for (int t = 1; t <= 7; t++) {
            DealtSecret x = Deals.zerosAt(2, 7, t);
            for (int i = 1; i <= 7; i++) {
                Checks.same("c(" + (i - 1) + ")", x.commitment(i - 1), i <= t ? 1 : 0);
                Checks.same("u of " + i, x.share(i, 0), 0);
                Checks.same("v of " + i, x.share(i, 1), 0);
            }
        }
        DealtSecret x = Deals.usualAt(2);
        x.begin(7, 7, true);
        x.advance();
        for (int i = 1; i <= 7; i++) {
            Checks.same("c(" + (i - 1) + ") of the next deal", x.commitment(i - 1), 1);
            Checks.same("u of " + i + " of the next deal", x.share(i, 0), 0);
        }
    }

    private static void notBlind() {
        Checks.about("if it is not blind, all b are 0 always");
        for (boolean before : new boolean[] {false, true}) {
            DealtSecret x = Deals.small();
            x.begin(2, 2, before);
            x.coefficient(0, 1, 1);
            x.coefficient(1, 1, 1);
            x.begin(2, 2, false);
            x.coefficient(0, 3, 1);
            x.coefficient(1, 2, -1);
            x.advance();
            Checks.same("c(0)", x.commitment(0), Numbers.commit(SMALL, 3, 0));
            Checks.same("c(1)", x.commitment(1), Numbers.commit(SMALL, 2, 0));
            Checks.same("v of 1", x.share(1, 1), 0);
            Checks.same("v of 2", x.share(2, 1), 0);
            x.begin(2, 2, true);
            x.coefficient(0, 3, 1);
            x.coefficient(1, 2, -1);
            x.advance();
            Checks.same("c(0), blind", x.commitment(0), Numbers.commit(SMALL, 3, 1));
            Checks.same("c(1), blind", x.commitment(1), Numbers.commit(SMALL, 2, 10));
            Checks.same("v of 1, blind", x.share(1, 1), 0);
            Checks.same("v of 2, blind", x.share(2, 1), 10);
        }
    }

    /** One commitment is forged to an element that need not lie in the subgroup, the others are 1. */
    private static void wholeExponents() {
        Checks.about("c(k)^(i^k) for k = 0 .. t - 1 (i^k as it is, not modulo q)");
        int otherwise = 0;
        int[][] groups = {{67, 11, 64, 59}, USUAL, {71, 7, 20, 30}, GREATEST_P};
        int[][] forged = {{66, 29, 37}, {2038, 2, 3}, {70, 5, 2}, {2147483646, 1513477735, 1752599774}};
        for (int g = 0; g < groups.length; g++) {
            for (int element : forged[g]) {
                for (int k = 0; k < 6; k++) {
                    otherwise += checkExponents(groups[g], element, k);
                }
            }
        }
        Checks.yes("some i^k modulo q would have given another answer", otherwise > 20);
    }

    private static int checkExponents(int[] told, int element, int k) {
        DealtSecret x = Deals.in(told);
        int p = x.group(0);
        BigInteger q = Numbers.big(x.group(1));
        int otherwise = 0;
        x.begin(6, 6, true);
        x.advance();
        x.forge(k, element);
        for (int i = 1; i <= 6; i++) {
            BigInteger exponent = Numbers.big(i).pow(k);
            boolean fits = Numbers.power(element, exponent, p) == 1;
            Checks.same(element + "^(" + i + "^" + k + ") is 1 modulo " + p, x.fits(i), fits);
            otherwise += fits == (Numbers.power(element, exponent.mod(q), p) == 1) ? 0 : 1;
        }
        return otherwise;
    }

    private static void wholeExponentsOfPairsThatFit() {
        Checks.about("c(k)^(i^k) for k = 0 .. t - 1 (i^k as it is, not modulo q): answer, open and show");
        for (int k = 1; k <= 6; k++) {
            DealtSecret x = signsForged(k);
            x.advance();
            Checks.same("no odd one complains", x.complaints(), 0);
            x.accuse(2);
            x.advance();
            Checks.no("an answer to an even one", x.answer(2, 1, 0));
            Checks.same("cannot be given", x.advance(), 6);

            DealtSecret y = Deals.advanced(signsForged(k), 5);
            for (int i = 1; i <= 7; i++) {
                Checks.same("open " + i + " with k " + k, y.open(i), i % 2 == 1);
                Checks.same("show " + i + " with k " + k, y.show(i, 1 - 8, 1), i % 2 == 1);
            }
        }
    }

    /** With -g and -1 for c(0) = g and c(k) = 1 a share fits just when 1 + i^k is even, so i is odd. */
    private static DealtSecret signsForged(int k) {
        DealtSecret x = Deals.small();
        x.begin(7, 7, true);
        x.coefficient(0, 1, 0);
        x.advance();
        x.forge(0, 23 - 4);
        x.forge(k, 22);
        for (int i = 2; i <= 6; i += 2) {
            Checks.no("the share of an even one fits", x.fits(i));
            x.corrupt(i);
        }
        return x;
    }

    // ---- complaints and answers

    private static void whoComplains() {
        Checks.about("every participant that is not CORRUPT and has a share that does not fit COMPLAINS");
        for (int n = 1; n <= 4; n++) {
            for (int corrupt = 0; corrupt < 1 << n; corrupt++) {
                for (int bad = 0; bad < 1 << n; bad++) {
                    checkComplaints(n, corrupt, bad);
                }
            }
        }
    }

    private static void checkComplaints(int n, int corrupt, int bad) {
        DealtSecret x = Deals.zerosAt(1, n, n);
        for (int i = 1; i <= n; i += 2) {
            corruptIf(x, i, corrupt);
        }
        x.advance();
        for (int i = 1; i <= n; i++) {
            if ((bad >> (i - 1) & 1) == 1) {
                x.tamper(i, i % 2, 1 - i % 2);
            }
        }
        for (int i = 2; i <= n; i += 2) {
            corruptIf(x, i, corrupt);
        }
        x.advance();
        Checks.same("complaints with bad " + bad + " and corrupt " + corrupt, x.complaints(),
                Integer.bitCount(bad & ~corrupt));
        if (Integer.bitCount(bad & ~corrupt) < n) {
            x.advance();
            for (int i = 1; i <= n; i++) {
                int one = i;
                boolean complains = ((bad & ~corrupt) >> (i - 1) & 1) == 1;
                Checks.same("whether " + i + " complains", Checks.outcome(() -> x.answer(one, 0, 0)),
                        complains ? "true" : Deals.MISSING.getName());
            }
        }
    }

    private static void corruptIf(DealtSecret x, int i, int corrupt) {
        if ((corrupt >> (i - 1) & 1) == 1) {
            x.corrupt(i);
        }
    }

    private static void tOrMore() {
        Checks.about("if t or more complain, the dealer is disqualified, else its stage is ANSWERING");
        for (int n = 1; n <= 7; n++) {
            for (int t = 1; t <= n; t++) {
                for (int complain = 0; complain <= n; complain++) {
                    for (int accusers = 0; accusers <= complain; accusers++) {
                        checkThreshold(n, t, complain, accusers);
                    }
                }
            }
        }
    }

    /** The last of those that complain are corrupt and accuse, the others have bad shares. */
    private static void checkThreshold(int n, int t, int complain, int accusers) {
        DealtSecret x = Deals.zerosAt(2, n, t);
        for (int i = 1; i <= complain - accusers; i++) {
            x.tamper(i, 0, 1);
        }
        for (int i = complain - accusers + 1; i <= complain; i++) {
            x.corrupt(i);
        }
        x.advance();
        for (int i = complain - accusers + 1; i <= complain; i++) {
            Checks.yes("accuse " + i, x.accuse(i));
        }
        Checks.same("complaints", x.complaints(), complain);
        String what = complain + " of " + n + " with t " + t;
        Checks.same(what, x.advance(), complain >= t ? 6 : 4);
        Checks.same(what + ": stage", x.stage(), complain >= t ? 6 : 4);
    }

    /** A deal of zeros, where the participants told by bits complain and have (1, 0). */
    private static DealtSecret answering(int n, int complaining) {
        DealtSecret x = Deals.zerosAt(2, n, n);
        for (int i = 1; i <= n; i++) {
            if ((complaining >> (i - 1) & 1) == 1) {
                x.tamper(i, 1, 0);
            }
        }
        return Deals.advanced(x, 4);
    }

    private static void everyComplaintAnswered() {
        Checks.about("accepted if every complaint was answered with a pair that fits, else disqualified");
        for (int n = 1; n <= 5; n++) {
            for (int complaining = 0; complaining < (1 << n) - 1; complaining++) {
                for (int right = complaining; right >= 0; right--) {
                    if ((right & ~complaining) == 0) {
                        checkAnswered(n, complaining, right, true);
                        checkAnswered(n, complaining, right, false);
                    }
                }
            }
        }
    }

    private static void checkAnswered(int n, int complaining, int right, boolean others) {
        DealtSecret x = answering(n, complaining);
        for (int i = 1; i <= n; i++) {
            int bit = 1 << (i - 1);
            if ((right & bit) != 0) {
                Checks.yes("a right answer", x.answer(i, 0, 0));
            } else if ((complaining & bit) != 0 && others) {
                Checks.no("a wrong answer", x.answer(i, 0, 1));
            }
        }
        Checks.same("stage with complaints " + complaining + ", answered " + right, x.advance(),
                right == complaining ? 5 : 6);
        Checks.same("complaints stay", x.complaints(), Integer.bitCount(complaining));
    }

    private static void latestAnswerCounts() {
        Checks.about("the latest answer counts");
        for (int answers = 0; answers < 1 << 4; answers++) {
            DealtSecret x = answering(3, 0b101);
            x.answer(3, 0, 0);
            for (int at = 3; at >= 0; at--) {
                boolean right = (answers >> at & 1) == 1;
                Checks.same("answer", x.answer(1, right ? 0 : 5, 0), right);
            }
            Checks.same("stage after answers " + answers, x.advance(), (answers & 1) == 1 ? 5 : 6);
        }
        DealtSecret x = answering(3, 0b101);
        x.answer(1, 0, 0);
        x.answer(3, 0, 0);
        Checks.no("the latest to 1, though 3 was answered since", x.answer(1, 0, 1));
        Checks.yes("the latest to 3", x.answer(3, -8, 1));
        Checks.same("one of two is bad", x.advance(), 6);
    }

    private static void latestAnswerIsTheShare() {
        Checks.about("the latest answer is the participant's share from then on");
        DealtSecret x = answering(3, 0b001);
        checkShareOf(x, 1, 0, false);
        x.answer(1, 5, 6);
        checkShareOf(x, 5, 6, false);
        x.answer(1, 0, 0);
        checkShareOf(x, 0, 0, true);
        x.answer(1, -8, 12);
        checkShareOf(x, 3, 1, true);
        Checks.same("another's share", x.share(2, 0), 0);
        x.advance();
        checkShareOf(x, 3, 1, true);
        Checks.yes("open", x.open(1));
        x.open(2);
        x.open(3);
        Checks.same("the secret by 3, 0, 0 at 1, 2, 3", x.secret(), 9);
        Checks.yes("show of another", x.show(1, 0, 0));
        checkShareOf(x, 3, 1, true);
        DealtSecret y = answering(3, 0b001);
        y.answer(1, 5, 6);
        y.advance();
        Checks.same("stage", y.stage(), 6);
        checkShareOf(y, 5, 6, false);
    }

    private static void checkShareOf(DealtSecret x, int u, int v, boolean fits) {
        Checks.same("u of 1 in stage " + x.stage(), x.share(1, 0), u);
        Checks.same("v of 1 in stage " + x.stage(), x.share(1, 1), v);
        Checks.same("fits 1 in stage " + x.stage(), x.fits(1), fits);
    }

    // ---- exceptions

    /** RefusalsTest has each call in each stage; here those for which two or three exceptions would do. */
    private static void exceptionNamedFirst() {
        Checks.about("Where two exceptions would do, the one that is named first is thrown");
        for (int stage = 0; stage <= 6; stage++) {
            boolean answering = stage == 4;
            boolean accepted = stage == 5;
            for (int i : new int[] {0, 4, Deals.LEAST, Deals.GREATEST}) {
                Deals.refusedAt(stage, "answer " + i, answering ? Deals.ARGUMENT : Deals.STATE, x -> x.answer(i, 0, 0));
                Deals.refusedAt(stage, "open " + i, accepted ? Deals.ARGUMENT : Deals.STATE, x -> x.open(i));
            }
            Deals.refusedAt(stage, "answer 1", answering ? Deals.MISSING : Deals.STATE, x -> x.answer(1, 0, 0));
            Deals.refusedAt(stage, "secret", accepted ? Deals.MISSING : Deals.STATE, DealtSecret::secret);
            Deals.refusedAt(stage, "relation", accepted ? Deals.MISSING : Deals.STATE, DealtSecret::relation);
            Deals.refusedAt(stage, "forge", stage == 2 ? Deals.ARGUMENT : Deals.STATE, x -> x.forge(2, 0));
            Deals.refusedAt(stage, "coefficient", stage == 1 ? Deals.ARGUMENT : Deals.STATE, x -> x.coefficient(2, 0, 0));
        }
    }

    // ---- laying open

    private static void firstThatFitsIsKept() {
        Checks.about("the first of a participant that fits is kept");
        DealtSecret x = Deals.zerosAt(5, 2, 1);
        Checks.no("a pair that does not fit", x.show(1, 1, 0));
        Checks.same("is not kept", x.opened(), 0);
        Checks.yes("the first that fits", x.show(1, -8, 1));
        Checks.same("is kept", x.opened(), 1);
        Checks.same("its number", x.secret(), 3);
        Checks.yes("the share, second", x.open(1));
        Checks.yes("a third", x.show(1, -16, 2));
        Checks.no("one that does not fit", x.show(1, 1, 0));
        Checks.same("one is kept still", x.opened(), 1);
        Checks.same("the first", x.secret(), 3);
        DealtSecret y = Deals.zerosAt(5, 2, 1);
        Checks.yes("the share, first", y.open(1));
        Checks.yes("another, second", y.show(1, -8, 1));
        Checks.same("the first", y.secret(), 0);
        Checks.yes("2 keeps its own", y.show(2, -8, 1));
        Checks.same("opened", y.opened(), 2);
        Checks.same("the lowest number", y.secret(), 0);
    }

    private static void relationNeedsTwoPairsOfOne() {
        Checks.about("If a participant laid open two pairs that fit and have different v");
        DealtSecret x = Deals.zerosAt(5, 3, 2);
        noRelation(x, "before any pair");
        x.open(1);
        noRelation(x, "one pair");
        x.open(1);
        noRelation(x, "the same pair twice");
        x.show(1, 11, -11);
        noRelation(x, "the same pair modulo q");
        Checks.no("does not fit", x.show(1, 0, 1));
        noRelation(x, "a pair with another v that does not fit");
        Checks.no("does not fit", x.show(1, 1, 0));
        noRelation(x, "a pair with another u that does not fit");
        x.show(2, -8, 1);
        noRelation(x, "pairs of two participants with different v");
        Checks.no("does not fit", x.show(3, 1, 1));
        x.open(3);
        noRelation(x, "one that does not fit before one that fits");
        x.show(2, 3, 12);
        noRelation(x, "the same pair of 2");
        Checks.yes("fits", x.show(3, -80, 10));
        Checks.same("the relation", x.relation(), 8);
    }

    private static void noRelation(DealtSecret x, String what) {
        Checks.refused("relation: " + what, Deals.MISSING, x::relation);
    }

    private static void relationModuloQ() {
        Checks.about("the RELATION is the number x with u + x * v the same for both, modulo q");
        int[][] groups = {{7, 3, 2, 4}, {7, 3, 4, 2}, {11, 5, 3, 9}, {11, 5, 3, 4}, {23, 11, 4, 16}, {23, 11, 4, 6}, SMALL,
            {23, 11, 9, 4}, {71, 7, 20, 30}, USUAL};
        for (int[] group : groups) {
            int q = group[1];
            int log = Numbers.log(group);
            for (int kept : new int[] {0, 1, q - 1}) {
                for (int v : new int[] {0, 1, 2, q - 2, q - 1, q, -1, -q}) {
                    checkRelation(group, log, kept, v);
                }
            }
        }
    }

    /** First the pair with v = kept, then the one with the v that is told. */
    private static void checkRelation(int[] group, int log, int kept, int v) {
        int q = group[1];
        DealtSecret x = Deals.advanced(oneParticipant(group, q - 1, 1), 5);
        int sum = q - 1 + log;
        Checks.yes("the kept pair", x.show(1, sum - log * kept, kept));
        Checks.yes("another pair", x.show(1, sum - log * v, v));
        if (Math.floorMod(v - kept, q) == 0) {
            noRelation(x, "v is the same modulo q");
        } else {
            Checks.same("relation in " + group[0] + " by " + kept + " and " + v, x.relation(), log);
        }
    }

    /** Any two such pairs tell the same number, so the order is seen only in when there is one. */
    private static void relationOfTheFirstTwo() {
        Checks.about("the first such two by the order of laying open; a pair is compared with the kept one");
        DealtSecret x = Deals.zerosAt(5, 3, 2);
        x.open(2);
        x.show(1, -8, 1);
        noRelation(x, "a kept pair of 2 and one of 1");
        Checks.yes("the second of 2", x.show(2, -16, 2));
        Checks.same("the relation at once", x.relation(), 8);
        Checks.yes("the same as the second", x.show(2, -16, 2));
        Checks.same("the relation stays", x.relation(), 8);
        Checks.yes("the kept one again", x.open(2));
        Checks.same("the relation stays", x.relation(), 8);
        Checks.yes("the second of 1", x.show(1, 0, 0));
        Checks.same("the relation stays", x.relation(), 8);
        Checks.no("a pair that does not fit", x.show(1, 1, 0));
        Checks.same("the relation stays", x.relation(), 8);
        Checks.same("pairs kept", x.opened(), 2);
        x.begin(3, 2, true);
        Deals.advanced(x, 5);
        noRelation(x, "a new deal");
    }
}
