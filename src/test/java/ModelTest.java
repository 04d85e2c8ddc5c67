import java.math.BigInteger;
import java.util.ArrayList;
import java.util.List;
import java.util.NoSuchElementException;
import java.util.Random;

/**
 * Runs of 512 mixed calls, each answer compared with a model that keeps the history of the deal and
 * works every answer out from it anew, by the document's definitions, slowly and with big numbers.
 */
public final class ModelTest {
    private static final int RUNS = 1500;
    private static final int CALLS = 512;
    private static final long STATE = 1L << 40;
    private static final long ARGUMENT = 2L << 40;
    private static final long MISSING = 3L << 40;

    private static final int[][] GROUPS = {
        {7, 3, 2, 4}, {11, 5, 3, 4}, {23, 11, 4, 9}, {67, 11, 64, 59}, {71, 7, 20, 30}, {2039, 1019, 4, 9},
        {2147483579, 1073741789, 4, 9}, {2147483647, 331, 272122089, 1761855083}, {23, 11, 9, 4}, {91, 3, 16, 9},
    };

    public static void main(String[] args) {
        for (int run = 0; run < RUNS; run++) {
            new Run(run).play();
        }
        Checks.end("ModelTest");
    }

    private static final class Run {
        final int seed;
        final Random random;
        final DealtSecret real;
        final Model model;

        Run(int seed) {
            this.seed = seed;
            random = new Random(seed);
            int[] g = GROUPS[seed % GROUPS.length];
            real = new DealtSecret(g[0], g[1], g[2], g[3]);
            model = new Model(g[0] == 91 ? new int[] {2039, 1019, 4, 9} : g);
        }

        void play() {
            for (int call = 0; call < CALLS; call++) {
                String name = pick();
                int[] with = {small(), number(), number()};
                aim(name, with);
                String told = "run " + seed + " call " + call + ": " + name + " " + with[0] + " " + with[1] + " " + with[2];
                Checks.same(told, real(name, with), model.call(name, with));
            }
        }

        /** Mostly a call that the stage allows, so that runs come through all stages. */
        private String pick() {
            String[] fitting = {
                "begin", "coefficient coefficient coefficient corrupt advance",
                "tamper tamper forge corrupt advance advance advance", "accuse accuse advance",
                "answer answer answer advance", "open show show show secret relation open begin", "begin",
            };
            String[] all = ("group begin coefficient advance tamper forge corrupt accuse answer open show secret relation"
                    + " stage commitment share fits complaints opened commitment share fits opened").split(" ");
            String[] from = random.nextInt(3) > 0 ? fitting[model.stage].split(" ") : all;
            String name = from[random.nextInt(from.length)];
            return name.equals("begin") && random.nextInt(3) > 0 && model.stage % 5 != 0 ? "stage" : name;
        }

        /** Turns chance into pairs that fit, often, and into deals that can be. */
        private void aim(String name, int[] with) {
            if (name.equals("begin") && random.nextInt(4) > 0) {
                with[0] = 1 + random.nextInt(7);
                with[1] = 1 + random.nextInt(with[0]);
            }
            if (name.equals("share")) {
                with[1] = random.nextInt(4) - 1;
            }
            if (name.equals("forge") && random.nextInt(2) == 0) {
                with[1] = model.commitment(with[0]);
            }
            boolean pair = name.equals("tamper") || name.equals("answer") || name.equals("show");
            if (pair && model.stage >= 2 && random.nextInt(3) > 0) {
                with[1] = model.value(model.a, with[0]) - (int) (random.nextInt(2) * (long) model.q);
                with[2] = model.value(model.b, with[0]);
            }
            if (pair && model.q < 100 && random.nextInt(2) == 0) {
                int moved = random.nextInt(model.q);
                with[1] = Math.floorMod(with[1], model.q) - moved * model.log;
                with[2] = Math.floorMod(with[2], model.q) + moved;
            }
        }

        private int small() {
            int r = random.nextInt(40);
            return r == 0 ? Integer.MIN_VALUE : r == 1 ? Integer.MAX_VALUE : r < 6 ? r - 4 : random.nextInt(model.n + 2);
        }

        private int number() {
            int r = random.nextInt(6);
            return r == 0 ? random.nextInt() : r == 1 ? -random.nextInt(30) : random.nextInt(1 + model.q);
        }

        private long real(String name, int[] w) {
            try {
                return answer(name, w);
            } catch (IllegalStateException e) {
                return STATE;
            } catch (IllegalArgumentException e) {
                return ARGUMENT;
            } catch (NoSuchElementException e) {
                return MISSING;
            }
        }

        private long answer(String name, int[] w) {
            switch (name) {
                case "group": return real.group(w[0]);
                case "begin": real.begin(w[0], w[1], (w[2] & 1) == 1); return 0;
                case "coefficient": real.coefficient(w[0], w[1], w[2]); return 0;
                case "advance": return real.advance();
                case "tamper": real.tamper(w[0], w[1], w[2]); return 0;
                case "forge": real.forge(w[0], w[1]); return 0;
                case "corrupt": return real.corrupt(w[0]) ? 1 : 0;
                case "accuse": return real.accuse(w[0]) ? 1 : 0;
                case "answer": return real.answer(w[0], w[1], w[2]) ? 1 : 0;
                case "open": return real.open(w[0]) ? 1 : 0;
                case "show": return real.show(w[0], w[1], w[2]) ? 1 : 0;
                case "secret": return real.secret();
                case "relation": return real.relation();
                case "stage": return real.stage();
                case "commitment": return real.commitment(w[0]);
                case "share": return real.share(w[0], w[1]);
                case "fits": return real.fits(w[0]) ? 1 : 0;
                case "complaints": return real.complaints();
                default: return real.opened();
            }
        }
    }

    private static final class Model {
        final int[] group;
        final int p;
        final int q;
        int stage = 0;
        int n = 0;
        int t = 0;
        boolean blind;
        int[] a;
        int[] b;
        int[] published;
        int[][] shares;
        List<Integer> corrupt;
        List<Integer> complained;
        List<int[]> answers;
        List<int[]> laid;
        /** The power of g that h is; 0 in groups too large to try. */
        final int log;

        Model(int[] group) {
            this.group = group;
            p = group[0];
            q = group[1];
            log = q < 100 ? Numbers.log(group) : 0;
        }

        long call(String name, int[] w) {
            long refusal = refusal(name, w);
            return refusal != 0 ? refusal : answer(name, w);
        }

        private long refusal(String name, int[] w) {
            boolean participant = 1 <= w[0] && w[0] <= n;
            boolean coefficient = 0 <= w[0] && w[0] < t;
            switch (name) {
                case "begin":
                    return w[0] < 1 || w[0] > 7 || w[1] < 1 || w[1] > w[0] || q <= w[0] ? ARGUMENT : 0;
                case "coefficient": return stage != 1 ? STATE : coefficient ? 0 : ARGUMENT;
                case "advance": return stage == 0 || stage == 5 || stage == 6 ? STATE : 0;
                case "tamper": return stage != 2 ? STATE : participant ? 0 : ARGUMENT;
                case "forge": return stage != 2 ? STATE : coefficient && w[1] >= 1 && w[1] < p ? 0 : ARGUMENT;
                case "corrupt": return stage != 1 && stage != 2 ? STATE : participant ? 0 : ARGUMENT;
                case "accuse": return stage != 3 ? STATE : participant ? 0 : ARGUMENT;
                case "answer":
                    return stage != 4 ? STATE : !participant ? ARGUMENT : complained.contains(w[0]) ? 0 : MISSING;
                case "open":
                case "show": return stage != 5 ? STATE : participant ? 0 : ARGUMENT;
                case "secret": return stage != 5 ? STATE : kept().size() < t ? MISSING : 0;
                case "relation": return stage != 5 ? STATE : relatedPairs() == null ? MISSING : 0;
                default: return 0;
            }
        }

        private long answer(String name, int[] w) {
            int i = w[0];
            switch (name) {
                case "group": return i < 0 || i > 3 ? 0 : group[i];
                case "begin": begin(w[0], w[1], (w[2] & 1) == 1); return 0;
                case "coefficient": a[i] = mod(w[1]); b[i] = blind ? mod(w[2]) : 0; return 0;
                case "advance": return advance();
                case "tamper": shares[i] = new int[] {mod(w[1]), blind ? mod(w[2]) : 0}; return 0;
                case "forge": published[i] = w[1]; return 0;
                case "corrupt": return !corrupt.contains(i) && corrupt.add(i) ? 1 : 0;
                case "accuse": return corrupt.contains(i) && !complained.contains(i) && complained.add(i) ? 1 : 0;
                case "answer":
                    answers.add(new int[] {i, mod(w[1]), blind ? mod(w[2]) : 0});
                    return fits(i, share(i)) ? 1 : 0;
                case "open": return lay(i, share(i)[0], share(i)[1]);
                case "show": return lay(i, mod(w[1]), mod(w[2]));
                case "secret": return secret();
                case "relation": return relation();
                case "stage": return stage;
                case "commitment": return commitment(i);
                case "share": return stage < 2 || i < 1 || i > n || w[1] < 0 || w[1] > 1 ? -1 : share(i)[w[1]];
                case "fits": return stage >= 2 && i >= 1 && i <= n && fits(i, share(i)) ? 1 : 0;
                case "complaints": return stage == 0 ? 0 : complained.size();
                default: return stage == 0 ? 0 : kept().size();
            }
        }

        private void begin(int n, int t, boolean blind) {
            this.n = n;
            this.t = t;
            this.blind = blind;
            a = new int[t];
            b = new int[t];
            published = null;
            shares = null;
            corrupt = new ArrayList<>();
            complained = new ArrayList<>();
            answers = new ArrayList<>();
            laid = new ArrayList<>();
            stage = 1;
        }

        private int advance() {
            if (stage == 1) {
                published = new int[t];
                for (int k = 0; k < t; k++) {
                    published[k] = Numbers.commit(group, a[k], b[k]);
                }
                shares = new int[n + 1][];
                for (int i = 1; i <= n; i++) {
                    shares[i] = new int[] {value(a, i), value(b, i)};
                }
                stage = 2;
            } else if (stage == 2) {
                for (int i = 1; i <= n; i++) {
                    if (!corrupt.contains(i) && !fits(i, shares[i])) {
                        complained.add(i);
                    }
                }
                stage = 3;
            } else if (stage == 3) {
                stage = complained.size() < t ? 4 : 6;
            } else {
                stage = 5;
                for (int i : complained) {
                    if (latestAnswer(i) == null || !fits(i, latestAnswer(i))) {
                        stage = 6;
                    }
                }
            }
            return stage;
        }

        private int[] latestAnswer(int i) {
            int[] latest = null;
            for (int[] one : answers) {
                latest = one[0] == i ? new int[] {one[1], one[2]} : latest;
            }
            return latest;
        }

        private int[] share(int i) {
            return latestAnswer(i) != null ? latestAnswer(i) : shares[i];
        }

        private int lay(int i, int u, int v) {
            boolean right = fits(i, new int[] {u, v});
            if (right) {
                laid.add(new int[] {i, u, v});
            }
            return right ? 1 : 0;
        }

        /** The first pair of each that laid one open that fits, in the order of their numbers. */
        private List<int[]> kept() {
            List<int[]> all = new ArrayList<>();
            for (int i = 1; i <= n; i++) {
                if (keptOf(i) != null) {
                    all.add(keptOf(i));
                }
            }
            return all;
        }

        private int[] keptOf(int i) {
            for (int[] one : laid) {
                if (one[0] == i) {
                    return one;
                }
            }
            return null;
        }

        private int[][] relatedPairs() {
            for (int[] one : laid) {
                if (one[2] != keptOf(one[0])[2]) {
                    return new int[][] {keptOf(one[0]), one};
                }
            }
            return null;
        }

        private int relation() {
            int[][] two = relatedPairs();
            BigInteger up = big(two[1][1]).subtract(big(two[0][1]));
            BigInteger down = big(two[0][2]).subtract(big(two[1][2]));
            return up.multiply(down.modInverse(big(q))).mod(big(q)).intValueExact();
        }

        /** By Newton's divided differences, so not by the way of the program. */
        private int secret() {
            List<int[]> chosen = kept().subList(0, t);
            BigInteger[] row = new BigInteger[t];
            for (int k = 0; k < t; k++) {
                row[k] = big(chosen.get(k)[1]);
            }
            BigInteger value = row[0];
            BigInteger product = BigInteger.ONE;
            for (int level = 1; level < t; level++) {
                for (int k = 0; k + level < t; k++) {
                    BigInteger gap = big(chosen.get(k + level)[0] - chosen.get(k)[0]);
                    row[k] = row[k + 1].subtract(row[k]).multiply(gap.modInverse(big(q)));
                }
                product = product.multiply(big(-chosen.get(level - 1)[0]));
                value = value.add(row[0].multiply(product));
            }
            return value.mod(big(q)).intValueExact();
        }

        int commitment(int k) {
            return published == null || k < 0 || k >= t ? 0 : published[k];
        }

        private boolean fits(int i, int[] pair) {
            return Numbers.commit(group, pair[0], pair[1]) == Numbers.productAt(i, published, p);
        }

        int value(int[] coefficients, int i) {
            return Numbers.valueAt(i, coefficients, q);
        }

        private int mod(int x) {
            return Numbers.modulo(x, q);
        }

        private static BigInteger big(int x) {
            return Numbers.big(x);
        }
    }
}
