import java.math.BigInteger;

/** The sentences of the document's "Terms" on the group and its numbers, each on both sides of its boundary. */
public final class GroupTest {
    private static final int[][] GROUPS = {Deals.LEAST_GROUP, {11, 5, 3, 4}, {71, 7, 20, 30}, Deals.SMALL, Deals.USUAL,
        Deals.GREATEST_P, Deals.GREATEST_Q};

    public static void main(String[] args) {
        primes();
        lessThanTwoToThe31();
        divides();
        elements();
        notTheSame();
        powersAreOne();
        allSmallNumbers();
        theUsualGroupInItsPlace();
        elementsModuloP();
        coefficientsModuloQ();
        tamperedModuloQ();
        answeredModuloQ();
        shownModuloQ();
        sharesModuloQ();
        secretModuloQ();
        Checks.end("GroupTest");
    }

    private static boolean isPrime(int x) {
        return x > 1 && Numbers.big(x).isProbablePrime(60);
    }

    private static boolean isOne(int x, int[] s) {
        return s[0] > 1 && s[1] > 0 && Numbers.big(x).modPow(Numbers.big(s[1]), Numbers.big(s[0])).equals(BigInteger.ONE);
    }

    /** Which of the document's conditions do not hold, a letter for each. */
    private static String lacking(int[] s) {
        String lacks = isPrime(s[0]) ? "" : "p";
        lacks += isPrime(s[1]) ? "" : "q";
        lacks += s[1] != 0 && Math.floorMod((long) s[0] - 1, (long) s[1]) == 0 ? "" : "d";
        lacks += 2 <= s[2] && s[2] <= s[0] - 1L ? "" : "g";
        lacks += 2 <= s[3] && s[3] <= s[0] - 1L ? "" : "h";
        lacks += s[2] != s[3] ? "" : "s";
        lacks += isOne(s[2], s) ? "" : "G";
        lacks += isOne(s[3], s) ? "" : "H";
        return lacks;
    }

    private static void checkGroup(int[] told, int[] due) {
        DealtSecret x = Deals.in(told);
        String name = told[0] + " " + told[1] + " " + told[2] + " " + told[3] + ": group ";
        for (int what = 0; what < 4; what++) {
            Checks.same(name + what, x.group(what), due[what]);
        }
    }

    private static void sound(int p, int q, int g, int h) {
        int[] told = {p, q, g, h};
        Checks.same("the test's own numbers lack", lacking(told), "");
        checkGroup(told, told);
    }

    private static void unsound(String lacks, int p, int q, int g, int h) {
        int[] told = {p, q, g, h};
        Checks.same("the test's own numbers lack", lacking(told), lacks);
        checkGroup(told, Deals.USUAL);
    }

    private static void primes() {
        Checks.about("p and q are primes");
        sound(7, 3, 2, 4);
        sound(13, 3, 3, 9);
        unsound("p", 28, 3, 9, 25);
        unsound("p", 49, 3, 18, 30);
        unsound("p", 91, 3, 16, 9);
        unsound("p", 169, 3, 22, 146);
        unsound("p", 961, 3, 439, 521);
        unsound("p", 2147117569, 181, 2379923, 1926704189);
        sound(11, 5, 3, 4);
        unsound("q", 5, 4, 2, 3);
        unsound("q", 19, 9, 4, 5);
        unsound("q", 31, 15, 2, 4);
        unsound("q", 101, 25, 16, 81);
        unsound("q", 197, 49, 16, 81);
        unsound("q", 2142393797, 535598449, 16, 81);
        unsound("q", 2147483647, 2147483646, 2, 3);
        unsound("qGH", 23, 1, 4, 9);
        unsound("qGH", 23, -11, 4, 9);
        unsound("qdGH", 23, 0, 4, 9);
        unsound("pghGH", -23, 3, 4, 9);
        unsound("pghGH", 1, 3, 4, 9);
        unsound("pdghGH", 0, 3, 4, 9);
        unsound("pqghGH", 0, -1, 4, 9);
        unsound("pqdghGH", 0, 0, 4, 9);
        unsound("pqghGH", Deals.LEAST, -1, 4, 9);
        unsound("pqdghGH", Deals.LEAST, Deals.LEAST, 4, 9);
        unsound("qdGH", Deals.GREATEST, Deals.LEAST, 4, 9);
    }

    private static void lessThanTwoToThe31() {
        Checks.about("p is less than 2^31: the greatest p and q that an int holds, and beyond them");
        sound(2147483647, 3, 634005911, 1513477735);
        sound(2147483647, 331, 2255412, 2146777057);
        sound(2147483579, 1073741789, 4, 9);
        unsound("pdghGH", (int) 2147483659L, 3, 634005911, 1513477735);
        unsound("pqdghGH", Deals.LEAST, 0, 2, 4);
        unsound("qdgGH", Deals.GREATEST, Deals.LEAST, Deals.GREATEST, 2);
    }

    private static void divides() {
        Checks.about("q divides p - 1");
        sound(23, 11, 4, 9);
        unsound("dGH", 23, 13, 4, 9);
        unsound("dGH", 23, 7, 4, 9);
        unsound("dGH", 23, 23, 4, 9);
        unsound("dGH", 7, 5, 2, 4);
        unsound("dGH", 2147483579, 2147483579, 4, 9);
        unsound("dGH", 2147483579, 2147483647, 4, 9);
    }

    private static void elements() {
        Checks.about("g and h are 2 .. p - 1");
        sound(23, 11, 2, 18);
        sound(23, 11, 18, 2);
        sound(11, 5, 9, 3);
        sound(11, 5, 3, 9);
        sound(2147483647, 31, 2, 1073741824);
        unsound("g", 23, 11, 1, 9);
        unsound("h", 23, 11, 4, 1);
        unsound("gG", 23, 11, 0, 9);
        unsound("hH", 23, 11, 4, 0);
        unsound("g", 23, 11, 1 - 23, 9);
        unsound("h", 23, 11, 4, 1 - 23);
        unsound("g", 23, 11, 4 - 23, 9);
        unsound("h", 23, 11, 4, 9 - 23);
        unsound("G", 23, 11, 22, 9);
        unsound("H", 23, 11, 4, 22);
        unsound("gG", 23, 11, 23, 9);
        unsound("hH", 23, 11, 4, 23);
        unsound("g", 23, 11, 24, 9);
        unsound("h", 23, 11, 4, 24);
        unsound("g", 23, 11, 25, 9);
        unsound("h", 23, 11, 4, 23 + 9);
        unsound("gG", 2147483647, 331, 2147483647, 2146777057);
        unsound("hH", 2147483647, 331, 2255412, 2147483647);
        unsound("gG", 23, 11, Deals.LEAST, 9);
        unsound("hH", 23, 11, 4, Deals.LEAST);
        unsound("g", 23, 11, Deals.GREATEST - 1, 9);
        unsound("h", 23, 11, 4, Deals.GREATEST - 1);
    }

    private static void notTheSame() {
        Checks.about("g and h are not the same");
        sound(23, 11, 4, 3);
        unsound("s", 23, 11, 4, 4);
        unsound("s", 23, 11, 18, 18);
        unsound("s", 3, 2, 2, 2);
        unsound("s", 2147483647, 2, 2147483646, 2147483646);
    }

    private static void powersAreOne() {
        Checks.about("the powers g^q and h^q are 1 modulo p");
        sound(23, 11, 4, 9);
        unsound("G", 23, 11, 5, 9);
        unsound("H", 23, 11, 4, 5);
        unsound("GH", 23, 11, 5, 7);
        unsound("G", 2147483647, 331, 2255413, 2146777057);
        unsound("H", 2147483647, 331, 2255412, 2146777058);
        unsound("G", 2147483579, 1073741789, 2147483579 - 4, 9);
        unsound("H", 2147483579, 1073741789, 4, 2147483579 - 9);
    }

    private static void allSmallNumbers() {
        Checks.about("If not all of this holds, it is p = 2039, q = 1019, g = 4, h = 9: all small numbers");
        int count = 0;
        for (int p = -2; p <= 32; p++) {
            for (int q = -2; q <= 16; q++) {
                for (int g = -1; g <= p + 2; g++) {
                    for (int h = -1; h <= p + 2; h++) {
                        int[] told = {p, q, g, h};
                        boolean sound = lacking(told).isEmpty();
                        checkGroup(told, sound ? told : Deals.USUAL);
                        count += sound ? 1 : 0;
                    }
                }
            }
        }
        Checks.same("how many of them are sound", count, 152);
    }

    private static void theUsualGroupInItsPlace() {
        Checks.about("If not all of this holds, it is p = 2039, q = 1019, g = 4, h = 9: deals are made in it");
        DealtSecret x = new DealtSecret(23, 11, 4, 4);
        x.begin(1, 1, true);
        x.coefficient(0, -1, 1019);
        x.advance();
        Checks.same("-1 modulo 1019", x.share(1, 0), 1018);
        Checks.same("1019 modulo 1019", x.share(1, 1), 0);
        Checks.same("4^1018 modulo 2039", x.commitment(0), Numbers.commit(Deals.USUAL, 1018, 0));
        x.forge(0, 2038);
        Checks.same("the greatest element", x.commitment(0), 2038);
        Deals.refused(x, "forge to p", Deals.ARGUMENT, () -> x.forge(0, 2039));
    }

    // ---- powers, products, numbers

    private static void elementsModuloP() {
        Checks.about("Powers and products of group elements are modulo p (0 .. p - 1)");
        for (int[] group : GROUPS) {
            int q = group[1];
            for (int a : new int[] {0, 1, 2, q / 2, q - 2, q - 1}) {
                for (int b : new int[] {0, 1, 2, q / 2, q - 2, q - 1}) {
                    DealtSecret x = Deals.oneParticipant(group, a, b);
                    Checks.same("commitment to " + a + " " + b, x.commitment(0), Numbers.commit(group, a, b));
                    Checks.yes("the share fits", x.fits(1));
                }
            }
        }
    }

    /** Ints round 0 and round multiples of q, below and above, and the ends of int. */
    private static int[] ints(int q) {
        int most = Deals.GREATEST / q * q;
        return new int[] {
            Deals.LEAST, Deals.LEAST + 1, -most - 1, -most, -most + 1, -q - 1, -q, -q + 1, -2, -1,
            0, 1, q - 1, q, q + 1, most - 1, most, most == Deals.GREATEST ? 0 : most + 1,
            Deals.GREATEST - 1, Deals.GREATEST,
        };
    }

    private interface TwoInts {
        void check(int[] group, int u, int v);
    }

    private static void withInts(TwoInts one) {
        for (int[] group : GROUPS) {
            for (int x : ints(group[1])) {
                one.check(group, x, 1);
                one.check(group, 1, x);
                one.check(group, x, -1 - x);
            }
        }
    }

    private static void coefficientsModuloQ() {
        Checks.about("other numbers modulo q (0 .. q - 1; an int that is less than 0 too): coefficient");
        withInts((group, a, b) -> {
            DealtSecret x = Deals.oneParticipant(group, a, b);
            checkShare(x, group, a, b);
            int due = Numbers.commit(group, Numbers.modulo(a, group[1]), Numbers.modulo(b, group[1]));
            Checks.same("commitment to " + a + " " + b, x.commitment(0), due);
        });
    }

    private static void checkShare(DealtSecret x, int[] group, int u, int v) {
        Checks.same(u + " modulo " + group[1], x.share(1, 0), Numbers.modulo(u, group[1]));
        Checks.same(v + " modulo " + group[1], x.share(1, 1), Numbers.modulo(v, group[1]));
    }

    private static void tamperedModuloQ() {
        Checks.about("other numbers modulo q (0 .. q - 1; an int that is less than 0 too): tamper");
        withInts((group, u, v) -> {
            DealtSecret x = Deals.oneParticipant(group, u, v);
            x.tamper(1, u, v);
            checkShare(x, group, u, v);
            Checks.yes("the same pair fits", x.fits(1));
            x.tamper(1, next(u), v);
            checkShare(x, group, next(u), v);
            Checks.no("another does not", x.fits(1));
        });
    }

    private static int next(int x) {
        return x == Deals.GREATEST ? x - 1 : x + 1;
    }

    private static void answeredModuloQ() {
        Checks.about("other numbers modulo q (0 .. q - 1; an int that is less than 0 too): answer");
        withInts((group, u, v) -> {
            DealtSecret x = Deals.in(group);
            x.begin(2, 2, true);
            x.coefficient(0, u, v);
            x.advance();
            x.tamper(1, next(u), v);
            Deals.advanced(x, 4);
            Checks.yes("answer with the right pair", x.answer(1, u, v));
            checkShare(x, group, u, v);
            Checks.no("answer with another", x.answer(1, u, next(v)));
            checkShare(x, group, u, next(v));
        });
    }

    private static void shownModuloQ() {
        Checks.about("other numbers modulo q (0 .. q - 1; an int that is less than 0 too): show");
        withInts((group, u, v) -> {
            DealtSecret x = Deals.advanced(Deals.oneParticipant(group, u, v), 5);
            Checks.no("show of another pair", x.show(1, next(u), v));
            Checks.no("show of another pair", x.show(1, u, next(v)));
            Checks.yes("show of the right pair", x.show(1, u, v));
            Checks.same("the kept number", x.secret(), Numbers.modulo(u, group[1]));
            Checks.yes("open of the same", x.open(1));
            Checks.refused("relation", Deals.MISSING, x::relation);
        });
    }

    /** The least, the greatest and other coefficients, t of them. */
    private static int[] coefficients(int t, int q, int kind) {
        int[] all = new int[t];
        for (int k = 0; k < t; k++) {
            all[k] = kind == 0 ? q - 1 : kind == 1 ? (k == t - 1 ? q - 1 : 0) : (q - 1) / (k + 1);
        }
        return all;
    }

    /** As many participants as q allows, t of them needed, brought to stage 5. */
    private static DealtSecret fullDeal(int[] group, int n, int[] a, int[] b) {
        DealtSecret x = Deals.in(group);
        x.begin(n, a.length, true);
        for (int k = 0; k < a.length; k++) {
            x.coefficient(k, a[k], b[k]);
        }
        return Deals.advanced(x, 5);
    }

    private static void sharesModuloQ() {
        Checks.about("u = the sum of a(k) * i^k, and v = the sum of b(k) * i^k, modulo q");
        for (int[] group : GROUPS) {
            int q = group[1];
            int n = Math.min(7, q - 1);
            for (int t = 1; t <= n; t++) {
                for (int kind = 0; kind < 3; kind++) {
                    int[] a = coefficients(t, q, kind);
                    int[] b = coefficients(t, q, 2 - kind);
                    DealtSecret x = fullDeal(group, n, a, b);
                    for (int i = 1; i <= n; i++) {
                        Checks.same("u of " + i, x.share(i, 0), Numbers.valueAt(i, a, q));
                        Checks.same("v of " + i, x.share(i, 1), Numbers.valueAt(i, b, q));
                        Checks.yes("fits " + i, x.fits(i));
                    }
                }
            }
        }
    }

    private static void secretModuloQ() {
        Checks.about("the first numbers of these pairs (modulo q): the secret is 0 .. q - 1, from the highest and lowest");
        for (int[] group : GROUPS) {
            int q = group[1];
            int n = Math.min(7, q - 1);
            for (int t = 1; t <= n; t++) {
                for (int kind = 0; kind < 3; kind++) {
                    int[] a = coefficients(t, q, kind);
                    DealtSecret x = fullDeal(group, n, a, a);
                    for (int i = n; i >= 1; i--) {
                        Checks.yes("open " + i, x.open(i));
                        if (i <= n - t + 1) {
                            Checks.same("the secret from " + i + " and " + (t - 1) + " above", x.secret(), a[0]);
                        }
                    }
                }
            }
        }
    }
}
