import java.math.BigInteger;

/** The document's definitions, worked out with big numbers and so without any wrap-around. */
final class Numbers {
    private Numbers() {
    }

    static BigInteger big(int x) {
        return BigInteger.valueOf(x);
    }

    static int modulo(int x, int q) {
        return big(x).mod(big(q)).intValueExact();
    }

    static int power(int element, BigInteger exponent, int p) {
        return big(element).modPow(exponent, big(p)).intValueExact();
    }

    /** g^u * h^v in the group p, q, g, h. */
    static int commit(int[] group, int u, int v) {
        int p = group[0];
        BigInteger first = big(power(group[2], big(u), p));
        return first.multiply(big(power(group[3], big(v), p))).mod(big(p)).intValueExact();
    }

    /** The sum of coefficients[k] * i^k, modulo q. */
    static int valueAt(int i, int[] coefficients, int q) {
        BigInteger sum = BigInteger.ZERO;
        for (int k = 0; k < coefficients.length; k++) {
            sum = sum.add(big(coefficients[k]).multiply(big(i).pow(k)));
        }
        return sum.mod(big(q)).intValueExact();
    }

    /** The product of commitments[k]^(i^k), modulo p. */
    static int productAt(int i, int[] commitments, int p) {
        BigInteger product = BigInteger.ONE;
        for (int k = 0; k < commitments.length; k++) {
            product = product.multiply(big(power(commitments[k], big(i).pow(k), p)));
        }
        return product.mod(big(p)).intValueExact();
    }

    /** The power of g that h is, by trying; for small groups alone. */
    static int log(int[] group) {
        int log = 0;
        while (power(group[2], big(log), group[0]) != group[3]) {
            log++;
        }
        return log;
    }
}
