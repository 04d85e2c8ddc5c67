import java.math.BigInteger;

/** The other sentences of the document's "Terms" that name a boundary, each on both sides of it. */
public final class TermsTest {
    public static void main(String[] args) {
        zeroAtFirst();
        notBlind();
        wholeExponents();
        wholeExponentsOfPairsThatFit();
        whoComplains();
        tOrMore();
        everyComplaintAnswered();
        groundlessComplaintAnswered();
        latestAnswerCounts();
        latestAnswerIsTheShare();
        exceptionNamedFirst();
        firstThatFitsIsKept();
        relationNeedsTwoPairsOfOne();
        relationModuloQ();
        relationOfTheFirstTwo();
        Checks.end("TermsTest");
    }

    // ---- the deal

    private static void zeroAtFirst() {
        Checks.about("It has COEFFICIENTS a(0) .. a(t - 1) and b(0) .. b(t - 1), all 0 at first");
        for (int t = 1; t <= 7; t++) {
            DealtSecret x = Deals.zerosAt(2, 7, t);
            for (int i = 1; i <= 7; i++) {
                Checks.same("c(" + (i - 1) + ")", x.commitment(i - 1), i <= t ? 1 : 0);
                Checks.same("u of " + i, x.share(i, 0), 0);
                Checks.same("v of " + i, x.share(i, 1), 0);
            }
        }
        DealtSecret x = Deals.usualAt(2);
        x.begin(7, 7, true);
        x.advance();
        for (int i = 1; i <= 7; i++) {
            Checks.same("c(" + (i - 1) + ") of the next deal", x.commitment(i - 1), 1);
            Checks.same("u of " + i + " of the next deal", x.share(i, 0), 0);
        }
    }

    private static void notBlind() {
        Checks.about("if it is not blind, all b are 0 always");
        for (boolean before : new boolean[] {false, true}) {
            DealtSecret x = Deals.small();
            x.begin(2, 2, before);
            x.coefficient(0, 1, 1);
            x.coefficient(1, 1, 1);
            x.begin(2, 2, false);
            x.coefficient(0, 3, 1);
            x.coefficient(1, 2, -1);
            x.advance();
            Checks.same("c(0)", x.commitment(0), Numbers.commit(Deals.SMALL, 3, 0));
            Checks.same("c(1)", x.commitment(1), Numbers.commit(Deals.SMALL, 2, 0));
            Checks.same("v of 1", x.share(1, 1), 0);
            Checks.same("v of 2", x.share(2, 1), 0);
            x.begin(2, 2, true);
            x.coefficient(0, 3, 1);
            x.coefficient(1, 2, -1);
            x.advance();
            Checks.same("c(0), blind", x.commitment(0), Numbers.commit(Deals.SMALL, 3, 1));
            Checks.same("c(1), blind", x.commitment(1), Numbers.commit(Deals.SMALL, 2, 10));
            Checks.same("v of 1, blind", x.share(1, 1), 0);
            Checks.same("v of 2, blind", x.share(2, 1), 10);
        }
    }

    /** One commitment is forged to an element that need not lie in the subgroup, the others are 1. */
    private static void wholeExponents() {
        Checks.about("c(k)^(i^k) for k = 0 .. t - 1 (i^k as it is, not modulo q)");
        int otherwise = 0;
        int[][] groups = {{67, 11, 64, 59}, Deals.USUAL, {71, 7, 20, 30}, Deals.GREATEST_P};
        int[][] forged = {{66, 29, 37}, {2038, 2, 3}, {70, 5, 2}, {2147483646, 1513477735, 1752599774}};
        for (int g = 0; g < groups.length; g++) {
            for (int element : forged[g]) {
                for (int k = 0; k < 6; k++) {
                    otherwise += checkExponents(groups[g], element, k);
                }
            }
        }
        Checks.yes("some i^k modulo q would have given another answer", otherwise > 20);
    }

    private static int checkExponents(int[] told, int element, int k) {
        DealtSecret x = Deals.in(told);
        int p = x.group(0);
        BigInteger q = Numbers.big(x.group(1));
        int otherwise = 0;
        x.begin(6, 6, true);
        x.advance();
        x.forge(k, element);
        for (int i = 1; i <= 6; i++) {
            BigInteger exponent = Numbers.big(i).pow(k);
            boolean fits = Numbers.power(element, exponent, p) == 1;
            Checks.same(element + "^(" + i + "^" + k + ") is 1 modulo " + p, x.fits(i), fits);
            otherwise += fits == (Numbers.power(element, exponent.mod(q), p) == 1) ? 0 : 1;
        }
        return otherwise;
    }

    private static void wholeExponentsOfPairsThatFit() {
        Checks.about("c(k)^(i^k) for k = 0 .. t - 1 (i^k as it is, not modulo q): answer, open and show");
        for (int k = 1; k <= 6; k++) {
            DealtSecret x = signsForged(k);
            x.advance();
            Checks.same("no odd one complains", x.complaints(), 0);
            x.accuse(2);
            x.advance();
            Checks.no("an answer to an even one", x.answer(2, 1, 0));
            Checks.same("cannot be given", x.advance(), 6);

            DealtSecret y = Deals.advanced(signsForged(k), 5);
            for (int i = 1; i <= 7; i++) {
                Checks.same("open " + i + " with k " + k, y.open(i), i % 2 == 1);
                Checks.same("show " + i + " with k " + k, y.show(i, 1 - 8, 1), i % 2 == 1);
            }
        }
    }

    /** With -g and -1 for c(0) = g and c(k) = 1 a share fits just when 1 + i^k is even, so i is odd. */
    private static DealtSecret signsForged(int k) {
        DealtSecret x = Deals.small();
        x.begin(7, 7, true);
        x.coefficient(0, 1, 0);
        x.advance();
        x.forge(0, 23 - 4);
        x.forge(k, 22);
        for (int i = 2; i <= 6; i += 2) {
            Checks.no("the share of an even one fits", x.fits(i));
            x.corrupt(i);
        }
        return x;
    }

    // ---- complaints and answers

    private static void whoComplains() {
        Checks.about("every participant that is not CORRUPT and has a share that does not fit COMPLAINS");
        for (int n = 1; n <= 4; n++) {
            for (int corrupt = 0; corrupt < 1 << n; corrupt++) {
                for (int bad = 0; bad < 1 << n; bad++) {
                    checkComplaints(n, corrupt, bad);
                }
            }
        }
    }

    private static void checkComplaints(int n, int corrupt, int bad) {
        DealtSecret x = Deals.zerosAt(1, n, n);
        for (int i = 1; i <= n; i += 2) {
            corruptIf(x, i, corrupt);
        }
        x.advance();
        for (int i = 1; i <= n; i++) {
            if ((bad >> (i - 1) & 1) == 1) {
                x.tamper(i, i % 2, 1 - i % 2);
            }
        }
        for (int i = 2; i <= n; i += 2) {
            corruptIf(x, i, corrupt);
        }
        x.advance();
        Checks.same("complaints with bad " + bad + " and corrupt " + corrupt, x.complaints(),
                Integer.bitCount(bad & ~corrupt));
        if (Integer.bitCount(bad & ~corrupt) < n) {
            x.advance();
            for (int i = 1; i <= n; i++) {
                int one = i;
                boolean complains = ((bad & ~corrupt) >> (i - 1) & 1) == 1;
                Checks.same("whether " + i + " complains", Checks.outcome(() -> x.answer(one, 0, 0)),
                        complains ? "true" : Deals.MISSING.getName());
            }
        }
    }

    private static void corruptIf(DealtSecret x, int i, int corrupt) {
        if ((corrupt >> (i - 1) & 1) == 1) {
            x.corrupt(i);
        }
    }

    private static void tOrMore() {
        Checks.about("if t or more complain, the dealer is disqualified, else its stage is ANSWERING");
        for (int n = 1; n <= 7; n++) {
            for (int t = 1; t <= n; t++) {
                for (int complain = 0; complain <= n; complain++) {
                    for (int accusers = 0; accusers <= complain; accusers++) {
                        checkThreshold(n, t, complain, accusers);
                    }
                }
            }
        }
    }

    /** The last of those that complain are corrupt and accuse, the others have bad shares. */
    private static void checkThreshold(int n, int t, int complain, int accusers) {
        DealtSecret x = Deals.zerosAt(2, n, t);
        for (int i = 1; i <= complain - accusers; i++) {
            x.tamper(i, 0, 1);
        }
        for (int i = complain - accusers + 1; i <= complain; i++) {
            x.corrupt(i);
        }
        x.advance();
        for (int i = complain - accusers + 1; i <= complain; i++) {
            Checks.yes("accuse " + i, x.accuse(i));
        }
        Checks.same("complaints", x.complaints(), complain);
        String what = complain + " of " + n + " with t " + t;
        Checks.same(what, x.advance(), complain >= t ? 6 : 4);
        Checks.same(what + ": stage", x.stage(), complain >= t ? 6 : 4);
    }

    /** A deal of zeros, where the participants told by bits complain and have (1, 0). */
    private static DealtSecret answering(int n, int t, int complaining) {
        DealtSecret x = Deals.zerosAt(2, n, t);
        for (int i = 1; i <= n; i++) {
            if ((complaining >> (i - 1) & 1) == 1) {
                x.tamper(i, 1, 0);
            }
        }
        return Deals.advanced(x, 4);
    }

    private static void everyComplaintAnswered() {
        Checks.about("accepted if every complaint was answered with a pair that fits, else disqualified");
        for (int n = 1; n <= 5; n++) {
            for (int complaining = 0; complaining < (1 << n) - 1; complaining++) {
                for (int right = complaining; right >= 0; right--) {
                    if ((right & ~complaining) == 0) {
                        checkAnswered(n, n, complaining, right, true);
                        checkAnswered(n, Integer.bitCount(complaining) + 1, complaining, right, false);
                    }
                }
            }
        }
    }

    /** Those told by bits get a right answer; the others that complain a wrong one, or none. */
    private static void checkAnswered(int n, int t, int complaining, int right, boolean others) {
        DealtSecret x = answering(n, t, complaining);
        for (int i = 1; i <= n; i++) {
            int bit = 1 << (i - 1);
            if ((right & bit) != 0) {
                Checks.yes("a right answer", x.answer(i, 0, 0));
            } else if ((complaining & bit) != 0 && others) {
                Checks.no("a wrong answer", x.answer(i, 0, 1));
            }
        }
        Checks.same("stage with complaints " + complaining + ", answered " + right, x.advance(),
                right == complaining ? 5 : 6);
        Checks.same("complaints stay", x.complaints(), Integer.bitCount(complaining));
    }

    /** A corrupt participant accuses, though its share fits. */
    private static void groundlessComplaintAnswered() {
        Checks.about("accepted if every complaint was answered with a pair that fits: one without a reason too");
        for (int accuser = 1; accuser <= 3; accuser++) {
            DealtSecret x = accused(accuser);
            Checks.yes("the accuser's share fits", x.fits(accuser));
            Checks.same("not answered", x.advance(), 6);

            DealtSecret y = accused(accuser);
            Checks.no("a wrong answer", y.answer(accuser, 1, 0));
            Checks.same("answered wrongly", y.advance(), 6);

            DealtSecret z = accused(accuser);
            Checks.yes("a right answer", z.answer(accuser, 0, 0));
            Checks.same("answered", z.advance(), 5);
        }
    }

    private static DealtSecret accused(int accuser) {
        DealtSecret x = Deals.zerosAt(2, 3, 2);
        x.corrupt(accuser);
        x.advance();
        x.accuse(accuser);
        return Deals.advanced(x, 4);
    }

    private static void latestAnswerCounts() {
        Checks.about("the latest answer counts");
        for (int answers = 0; answers < 1 << 4; answers++) {
            DealtSecret x = answering(3, 3, 0b101);
            x.answer(3, 0, 0);
            for (int at = 3; at >= 0; at--) {
                boolean right = (answers >> at & 1) == 1;
                Checks.same("answer", x.answer(1, right ? 0 : 5, 0), right);
            }
            Checks.same("stage after answers " + answers, x.advance(), (answers & 1) == 1 ? 5 : 6);
        }
        DealtSecret x = answering(3, 3, 0b101);
        x.answer(1, 0, 0);
        x.answer(3, 0, 0);
        Checks.no("the latest to 1, though 3 was answered since", x.answer(1, 0, 1));
        Checks.yes("the latest to 3", x.answer(3, -8, 1));
        Checks.same("one of two is bad", x.advance(), 6);
    }

    private static void latestAnswerIsTheShare() {
        Checks.about("the latest answer is the participant's share from then on");
        DealtSecret x = answering(3, 3, 0b001);
        checkShareOf(x, 1, 0, false);
        x.answer(1, 5, 6);
        checkShareOf(x, 5, 6, false);
        x.answer(1, 0, 0);
        checkShareOf(x, 0, 0, true);
        x.answer(1, -8, 12);
        checkShareOf(x, 3, 1, true);
        Checks.same("another's share", x.share(2, 0), 0);
        x.advance();
        checkShareOf(x, 3, 1, true);
        Checks.yes("open", x.open(1));
        x.open(2);
        x.open(3);
        Checks.same("the secret by 3, 0, 0 at 1, 2, 3", x.secret(), 9);
        Checks.yes("show of another", x.show(1, 0, 0));
        checkShareOf(x, 3, 1, true);
        DealtSecret y = answering(3, 3, 0b001);
        y.answer(1, 5, 6);
        y.advance();
        Checks.same("stage", y.stage(), 6);
        checkShareOf(y, 5, 6, false);
    }

    private static void checkShareOf(DealtSecret x, int u, int v, boolean fits) {
        Checks.same("u of 1 in stage " + x.stage(), x.share(1, 0), u);
        Checks.same("v of 1 in stage " + x.stage(), x.share(1, 1), v);
        Checks.same("fits 1 in stage " + x.stage(), x.fits(1), fits);
    }

    // ---- exceptions

    /** RefusalsTest has each call in each stage; here those for which two or three exceptions would do. */
    private static void exceptionNamedFirst() {
        Checks.about("Where two exceptions would do, the one that is named first is thrown");
        for (int stage = 0; stage <= 6; stage++) {
            boolean answering = stage == 4;
            boolean accepted = stage == 5;
            for (int i : new int[] {0, 4, Deals.LEAST, Deals.GREATEST}) {
                Deals.refusedAt(stage, "answer " + i, answering ? Deals.ARGUMENT : Deals.STATE, x -> x.answer(i, 0, 0));
                Deals.refusedAt(stage, "open " + i, accepted ? Deals.ARGUMENT : Deals.STATE, x -> x.open(i));
            }
            Deals.refusedAt(stage, "answer 1", answering ? Deals.MISSING : Deals.STATE, x -> x.answer(1, 0, 0));
            Deals.refusedAt(stage, "secret", accepted ? Deals.MISSING : Deals.STATE, DealtSecret::secret);
            Deals.refusedAt(stage, "relation", accepted ? Deals.MISSING : Deals.STATE, DealtSecret::relation);
            Deals.refusedAt(stage, "forge", stage == 2 ? Deals.ARGUMENT : Deals.STATE, x -> x.forge(2, 0));
            Deals.refusedAt(stage, "coefficient", stage == 1 ? Deals.ARGUMENT : Deals.STATE, x -> x.coefficient(2, 0, 0));
        }
    }

    // ---- laying open

    private static void firstThatFitsIsKept() {
        Checks.about("the first of a participant that fits is kept");
        DealtSecret x = Deals.zerosAt(5, 2, 1);
        Checks.no("a pair that does not fit", x.show(1, 1, 0));
        Checks.same("is not kept", x.opened(), 0);
        Checks.yes("the first that fits", x.show(1, -8, 1));
        Checks.same("is kept", x.opened(), 1);
        Checks.same("its number", x.secret(), 3);
        Checks.yes("the share, second", x.open(1));
        Checks.yes("a third", x.show(1, -16, 2));
        Checks.no("one that does not fit", x.show(1, 1, 0));
        Checks.same("one is kept still", x.opened(), 1);
        Checks.same("the first", x.secret(), 3);
        DealtSecret y = Deals.zerosAt(5, 2, 1);
        Checks.yes("the share, first", y.open(1));
        Checks.yes("another, second", y.show(1, -8, 1));
        Checks.same("the first", y.secret(), 0);
        Checks.yes("2 keeps its own", y.show(2, -8, 1));
        Checks.same("opened", y.opened(), 2);
        Checks.same("the lowest number", y.secret(), 0);
    }

    private static void relationNeedsTwoPairsOfOne() {
        Checks.about("If a participant laid open two pairs that fit and have different v");
        DealtSecret x = Deals.zerosAt(5, 3, 2);
        noRelation(x, "before any pair");
        x.open(1);
        noRelation(x, "one pair");
        x.open(1);
        noRelation(x, "the same pair twice");
        x.show(1, 11, -11);
        noRelation(x, "the same pair modulo q");
        Checks.no("does not fit", x.show(1, 0, 1));
        noRelation(x, "a pair with another v that does not fit");
        Checks.no("does not fit", x.show(1, 1, 0));
        noRelation(x, "a pair with another u that does not fit");
        x.show(2, -8, 1);
        noRelation(x, "pairs of two participants with different v");
        Checks.no("does not fit", x.show(3, 1, 1));
        x.open(3);
        noRelation(x, "one that does not fit before one that fits");
        x.show(2, 3, 12);
        noRelation(x, "the same pair of 2");
        Checks.yes("fits", x.show(3, -80, 10));
        Checks.same("the relation", x.relation(), 8);
    }

    private static void noRelation(DealtSecret x, String what) {
        Checks.refused("relation: " + what, Deals.MISSING, x::relation);
    }

    private static void relationModuloQ() {
        Checks.about("the RELATION is the number x with u + x * v the same for both, modulo q");
        int[][] groups = {{7, 3, 2, 4}, {7, 3, 4, 2}, {11, 5, 3, 9}, {11, 5, 3, 4}, {23, 11, 4, 16}, {23, 11, 4, 6}, Deals.SMALL,
            {23, 11, 9, 4}, {71, 7, 20, 30}, Deals.USUAL};
        for (int[] group : groups) {
            int q = group[1];
            int log = Numbers.log(group);
            for (int kept : new int[] {0, 1, q - 1}) {
                for (int v : new int[] {0, 1, 2, q - 2, q - 1, q, -1, -q}) {
                    checkRelation(group, log, kept, v);
                }
            }
        }
    }

    /** First the pair with v = kept, then the one with the v that is told. */
    private static void checkRelation(int[] group, int log, int kept, int v) {
        int q = group[1];
        DealtSecret x = Deals.advanced(Deals.oneParticipant(group, q - 1, 1), 5);
        int sum = q - 1 + log;
        Checks.yes("the kept pair", x.show(1, sum - log * kept, kept));
        Checks.yes("another pair", x.show(1, sum - log * v, v));
        if (Math.floorMod(v - kept, q) == 0) {
            noRelation(x, "v is the same modulo q");
        } else {
            Checks.same("relation in " + group[0] + " by " + kept + " and " + v, x.relation(), log);
        }
    }

    /** Any two such pairs tell the same number, so the order is seen only in when there is one. */
    private static void relationOfTheFirstTwo() {
        Checks.about("the first such two by the order of laying open; a pair is compared with the kept one");
        DealtSecret x = Deals.zerosAt(5, 3, 2);
        x.open(2);
        x.show(1, -8, 1);
        noRelation(x, "a kept pair of 2 and one of 1");
        Checks.yes("the second of 2", x.show(2, -16, 2));
        Checks.same("the relation at once", x.relation(), 8);
        Checks.yes("the same as the second", x.show(2, -16, 2));
        Checks.same("the relation stays", x.relation(), 8);
        Checks.yes("the kept one again", x.open(2));
        Checks.same("the relation stays", x.relation(), 8);
        Checks.yes("the second of 1", x.show(1, 0, 0));
        Checks.same("the relation stays", x.relation(), 8);
        Checks.no("a pair that does not fit", x.show(1, 1, 0));
        Checks.same("the relation stays", x.relation(), 8);
        Checks.same("pairs kept", x.opened(), 2);
        x.begin(3, 2, true);
        Deals.advanced(x, 5);
        noRelation(x, "a new deal");
    }
}
