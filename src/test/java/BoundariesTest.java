/**
 * The sentences of the promises that name a boundary, each on both sides of it and at the ends of int.
 * RefusalsTest has each call in the stages in which it is refused, GroupTest and TermsTest the sentences of
 * "Terms".
 */
public final class BoundariesTest {
    private static final int CALLS = 512;
    private static final int[][] BY_Q = {Deals.LEAST_GROUP, {11, 5, 3, 4}, {71, 7, 20, 30},
        {2147483647, 7, 894255406, 1205362885}, Deals.SMALL, {67, 11, 64, 59}};

    public static void main(String[] args) {
        newObject();
        groupKinds();
        beginParticipants();
        beginThreshold();
        beginSmallQ();
        beginInThePlace();
        beginWithMoreAndFewer();
        beginForgets();
        coefficientKinds();
        coefficientTwice();
        advanceStages();
        advanceSendsAll();
        tamperParticipants();
        tamperTwice();
        forgeKinds();
        forgeElements();
        forgeTwice();
        corruptParticipants();
        corruptFromNowOn();
        accuseParticipants();
        accuseOnlyTheCorrupt();
        answerParticipants();
        openParticipants();
        openFits();
        showParticipants();
        showNotBlind();
        secretOfFewerThanT();
        secretOfTheLowest();
        relationOrNone();
        stageNumbers();
        commitmentKinds();
        shareKinds();
        fitsKinds();
        complaintsCount();
        openedCount();
        lastCallOfManyDeals();
        lastCallOfOneDeal();
        lastCallAfterRefusals();
        Checks.end("BoundariesTest");
    }

    private static DealtSecret begunWith(int[] group, int n, int t, boolean blind) {
        DealtSecret x = Deals.in(group);
        x.begin(n, t, blind);
        return x;
    }

    private static boolean within(int x, int least, int most) {
        return x >= least && x <= most;
    }

    // ---- promises 1 and 2

    private static void newObject() {
        Checks.about("Promise 1: Stage 0, no deal");
        for (int[] group : new int[][] {Deals.SMALL, Deals.LEAST_GROUP, {0, 0, 0, 0}, Deals.GREATEST_Q}) {
            DealtSecret x = Deals.in(group);
            Checks.same("stage", x.stage(), 0);
            Checks.same("complaints", x.complaints(), 0);
            Checks.same("opened", x.opened(), 0);
            for (int i : Deals.edges(0, 7)) {
                Checks.same("commitment " + i, x.commitment(i), 0);
                Checks.same("share " + i, x.share(i, 0), -1);
                Checks.same("share " + i, x.share(i, 1), -1);
                Checks.no("fits " + i, x.fits(i));
            }
            Deals.refused(x, "advance", Deals.STATE, x::advance);
            Deals.refused(x, "coefficient 0", Deals.STATE, () -> x.coefficient(0, 1, 1));
            Deals.refused(x, "tamper 1", Deals.STATE, () -> x.tamper(1, 1, 1));
        }
    }

    private static void groupKinds() {
        Checks.about("Promise 2: 0 p, 1 q, 2 g, 3 h. 0 for another");
        int[] told = Deals.SMALL;
        for (int stage = 0; stage <= 6; stage++) {
            DealtSecret x = Deals.usualAt(stage);
            for (int what = 0; what <= 3; what++) {
                Checks.same("group " + what + " in stage " + stage, x.group(what), told[what]);
            }
            for (int what : Deals.edges(0, 3)) {
                Checks.same("group " + what + " in stage " + stage, x.group(what), within(what, 0, 3) ? told[what] : 0);
            }
        }
    }

    // ---- promise 3

    private static void beginParticipants() {
        Checks.about("Promise 3: n is not 1 .. 7");
        Deals.bounds("begin with n", 1, 7, Deals::small, (x, n) -> x.begin(n, 1, true));
        Deals.bounds("begin with n = t", 1, 7, Deals::small, (x, n) -> x.begin(n, n, false));
        for (int n = 1; n <= 7; n++) {
            DealtSecret x = Deals.zerosAt(2, n, 1);
            Checks.same("the last participant", x.share(n, 0), 0);
            Checks.same("there is none above it", x.share(n + 1, 0), -1);
        }
    }

    private static void beginThreshold() {
        Checks.about("Promise 3: t is not 1 .. n");
        for (int n = 1; n <= 7; n++) {
            int count = n;
            Deals.bounds("begin " + n + " with t", 1, n, Deals::small, (x, t) -> x.begin(count, t, true));
            for (int t = 1; t <= n; t++) {
                DealtSecret x = Deals.zerosAt(2, n, t);
                Checks.same("the last commitment", x.commitment(t - 1), 1);
                Checks.same("there is none above it", x.commitment(t), 0);
            }
        }
    }

    private static void beginSmallQ() {
        Checks.about("Promise 3: q is not more than n");
        for (int[] group : BY_Q) {
            int most = Math.min(7, group[1] - 1);
            Deals.bounds("begin in " + group[0] + " with n", 1, most, () -> Deals.in(group), (x, n) -> x.begin(n, 1, true));
            Deals.bounds("begin in " + group[0] + " with t", 1, most, () -> Deals.in(group), (x, t) -> x.begin(most, t, true));
            DealtSecret x = begunWith(group, 1, 1, true);
            if (group[1] <= 7) {
                Deals.refused(x, "begin with n = q", Deals.ARGUMENT, () -> x.begin(group[1], 1, true));
                Deals.refused(x, "begin with n = t = q", Deals.ARGUMENT, () -> x.begin(group[1], group[1], true));
            }
            x.begin(most, most, true);
            Deals.advanced(x, 5);
            for (int i = 1; i <= most; i++) {
                Checks.yes("open " + i, x.open(i));
            }
            Checks.same("the secret of all", x.secret(), 0);
        }
    }

    private static void beginInThePlace() {
        Checks.about("Promise 3: Begins a new deal in the place of the one that was: stage PREPARING");
        for (int stage = 0; stage <= 6; stage++) {
            for (boolean blind : new boolean[] {true, false}) {
                DealtSecret x = Deals.usualAt(stage, !blind);
                x.begin(5, 4, blind);
                String fresh = Deals.seen(begunWith(Deals.SMALL, 5, 4, blind));
                Checks.same("begun in stage " + stage, Deals.seen(x), fresh);
                Checks.same("stage", x.stage(), 1);
                x.coefficient(3, 1, 1);
                x.advance();
                Checks.same("v of 5: 5^3 modulo 11, if blind", x.share(5, 1), blind ? 4 : 0);
                Checks.same("u of 5: 5^3 modulo 11", x.share(5, 0), 4);
            }
        }
    }

    private static void beginWithMoreAndFewer() {
        Checks.about("Promise 3: Begins a new deal in the place of the one that was: more and fewer participants");
        DealtSecret x = Deals.small();
        for (int n : new int[] {7, 1, 7, 3, 2, 6, 7}) {
            x.begin(n, n, true);
            for (int i = 1; i <= n; i++) {
                Checks.yes("corrupt " + i + " of " + n, x.corrupt(i));
            }
            Checks.refused("corrupt one more than " + n, Deals.ARGUMENT, () -> x.corrupt(n + 1));
            x.coefficient(n - 1, 1, 1);
            x.advance();
            Checks.same("the highest coefficient alone: 1 at 1", x.share(1, 0), 1);
            Checks.same("and the same for all", x.commitment(n - 1), Numbers.commit(Deals.SMALL, 1, 1));
            for (int k = 0; k < n - 1; k++) {
                Checks.same("the lower are 0", x.commitment(k), 1);
            }
            x.advance();
            Checks.same("nobody complains of " + n, x.complaints(), 0);
            Deals.advanced(x, 5);
            Checks.same("nothing is open of " + n, x.opened(), 0);
            for (int i = 1; i <= n; i++) {
                Checks.yes("open " + i + " of " + n, x.open(i));
            }
            Checks.same("opened of " + n, x.opened(), n);
            Checks.same("the secret", x.secret(), n == 1 ? 1 : 0);
        }
    }

    private static void beginForgets() {
        Checks.about("Promise 3: nobody corrupt, nothing complained, answered or open");
        DealtSecret x = Deals.zerosAt(1, 7, 7);
        for (int i = 1; i <= 3; i++) {
            x.corrupt(i);
        }
        x.advance();
        for (int i = 4; i <= 6; i++) {
            x.tamper(i, 1, 0);
        }
        x.advance();
        for (int i = 1; i <= 3; i++) {
            x.accuse(i);
        }
        x.advance();
        for (int i = 1; i <= 6; i++) {
            Checks.yes("answer " + i, x.answer(i, 0, 0));
        }
        x.advance();
        for (int i = 1; i <= 7; i++) {
            x.open(i);
            x.show(i, -8, 1);
        }
        Checks.same("complaints", x.complaints(), 6);
        Checks.same("opened", x.opened(), 7);
        Checks.same("relation", x.relation(), 8);

        x.begin(7, 7, true);
        Checks.same("complaints", x.complaints(), 0);
        Checks.same("opened", x.opened(), 0);
        Deals.advanced(x, 3);
        for (int i = 1; i <= 7; i++) {
            Checks.no("nobody is corrupt: accuse " + i, x.accuse(i));
        }
        Deals.advanced(x, 4);
        for (int i = 1; i <= 7; i++) {
            int one = i;
            Checks.refused("nothing was complained: answer " + i, Deals.MISSING, () -> x.answer(one, 0, 0));
        }
        x.advance();
        Checks.refused("nothing is open: secret", Deals.MISSING, x::secret);
        Checks.refused("nothing is open: relation", Deals.MISSING, x::relation);
        checkAnswersForgotten(x);
    }

    private static void checkAnswersForgotten(DealtSecret x) {
        x.begin(7, 7, true);
        x.advance();
        x.tamper(4, 1, 0);
        Deals.advanced(x, 4);
        Checks.yes("answer", x.answer(4, 0, 0));
        x.begin(7, 7, true);
        x.advance();
        x.tamper(4, 1, 0);
        Deals.advanced(x, 4);
        Checks.same("nothing was answered", x.advance(), 6);
    }

    // ---- promises 4 and 5

    private static void coefficientKinds() {
        Checks.about("Promise 4: k is not 0 .. t - 1");
        for (int n = 1; n <= 7; n++) {
            for (int t = 1; t <= n; t++) {
                int count = n;
                int needed = t;
                Deals.bounds("coefficient of " + t, 0, t - 1, () -> Deals.zerosAt(1, count, needed),
                        (x, k) -> x.coefficient(k, 1, 1));
            }
        }
    }

    private static void coefficientTwice() {
        Checks.about("Promise 4: Sets a(k) and b(k)");
        for (int k = 0; k < 7; k++) {
            DealtSecret x = Deals.zerosAt(1, 7, 7);
            x.coefficient(k, 5, 6);
            x.coefficient(k, 3, 4);
            x.advance();
            for (int other = 0; other < 7; other++) {
                Checks.same("c(" + other + ")", x.commitment(other),
                        other == k ? Numbers.commit(Deals.SMALL, 3, 4) : 1);
            }
        }
        DealtSecret x = Deals.zerosAt(1, 1, 1);
        x.coefficient(0, 5, 6);
        x.coefficient(0, 0, 0);
        x.advance();
        Checks.same("set to 0 again", x.commitment(0), 1);
    }

    private static void advanceStages() {
        Checks.about("Promise 5: Goes on to the next stage, and answers it");
        for (int n = 1; n <= 7; n++) {
            DealtSecret x = Deals.zerosAt(1, n, n);
            for (int stage = 2; stage <= 5; stage++) {
                Checks.same("advance", x.advance(), stage);
                Checks.same("stage", x.stage(), stage);
            }
        }
        Checks.about("Promise 5: IllegalStateException when the stage is 0, 5 or 6");
        for (int stage : new int[] {0, 5, 6}) {
            DealtSecret x = Deals.usualAt(stage);
            Deals.refused(x, "advance", Deals.STATE, x::advance);
            Deals.refused(x, "advance again", Deals.STATE, x::advance);
        }
    }

    private static void advanceSendsAll() {
        Checks.about("Promise 5: from PREPARING the commitments are published and each participant gets its share");
        for (int n = 1; n <= 7; n++) {
            for (int t = 1; t <= n; t++) {
                DealtSecret x = Deals.zerosAt(1, n, t);
                x.coefficient(0, 1, 2);
                x.advance();
                for (int i = 0; i <= 8; i++) {
                    boolean got = within(i, 1, n);
                    Checks.same("u of " + i + " of " + n, x.share(i, 0), got ? 1 : -1);
                    Checks.same("v of " + i + " of " + n, x.share(i, 1), got ? 2 : -1);
                    Checks.same("fits " + i + " of " + n, x.fits(i), got);
                    Checks.yes("c(" + i + ") of " + t, x.commitment(i) != 0 == i < t);
                }
            }
        }
    }

    // ---- promises 6 to 12

    private static void tamperParticipants() {
        Checks.about("Promise 6: IllegalArgumentException when there is no participant i");
        for (int n = 1; n <= 7; n++) {
            int count = n;
            Deals.bounds("tamper of " + n, 1, n, () -> Deals.zerosAt(2, count, 1), (x, i) -> x.tamper(i, 1, 1));
        }
    }

    private static void tamperTwice() {
        Checks.about("Promise 6: (u, v) instead, modulo q (v is 0 if the deal is not blind)");
        for (boolean blind : new boolean[] {true, false}) {
            for (int i = 1; i <= 3; i++) {
                DealtSecret x = Deals.usualAt(2, blind);
                DealtSecret untouched = Deals.usualAt(2, blind);
                x.tamper(i, 4, 3);
                x.tamper(i, -1, 21);
                for (int other = 1; other <= 3; other++) {
                    int v = blind ? 10 : 0;
                    Checks.same("u of " + other, x.share(other, 0), other == i ? 10 : untouched.share(other, 0));
                    Checks.same("v of " + other, x.share(other, 1), other == i ? v : untouched.share(other, 1));
                }
            }
        }
    }

    private static void forgeKinds() {
        Checks.about("Promise 7: k is not 0 .. t - 1");
        for (int n = 1; n <= 7; n++) {
            for (int t = 1; t <= n; t++) {
                int count = n;
                int needed = t;
                Deals.bounds("forge of " + t, 0, t - 1, () -> Deals.zerosAt(2, count, needed), (x, k) -> x.forge(k, 2));
            }
        }
    }

    private static void forgeElements() {
        Checks.about("Promise 7: x not 1 .. p - 1");
        int[][] groups = {Deals.LEAST_GROUP, Deals.SMALL, {0, 0, 0, 0}, Deals.GREATEST_Q, Deals.GREATEST_P};
        for (int[] group : groups) {
            int p = Deals.in(group).group(0);
            Deals.bounds("forge in " + p + " to", 1, p - 1, () -> Deals.advanced(begunWith(group, 2, 2, true), 2),
                    (x, element) -> {
                        x.forge(1, element);
                        Checks.same("c(1)", x.commitment(1), element);
                        Checks.same("c(0)", x.commitment(0), 1);
                    });
        }
    }

    private static void forgeTwice() {
        Checks.about("Promise 7: The commitment c(k) that was published is x instead");
        DealtSecret x = Deals.usualAt(2);
        x.forge(1, 22);
        x.forge(1, 5);
        Checks.same("c(1)", x.commitment(1), 5);
        Checks.same("c(0)", x.commitment(0), 4);
        Checks.same("the shares stay", x.share(2, 0) * 100 + x.share(2, 1), 201);
        x.forge(1, 6);
        for (int i = 1; i <= 3; i++) {
            Checks.yes("all fit again", x.fits(i));
        }
        Checks.same("nobody complains", x.advance() + x.complaints(), 3);
        Checks.same("c(1) later", x.commitment(1), 6);
    }

    private static void corruptParticipants() {
        Checks.about("Promise 8: IllegalArgumentException when there is no participant i");
        for (int stage = 1; stage <= 2; stage++) {
            for (int n = 1; n <= 7; n++) {
                int at = stage;
                int count = n;
                Deals.bounds("corrupt of " + n, 1, n, () -> Deals.zerosAt(at, count, 1),
                        (x, i) -> Checks.yes("corrupt " + i, x.corrupt(i)));
            }
        }
    }

    private static void corruptFromNowOn() {
        Checks.about("Promise 8: Participant i is corrupt from now on. False, changing nothing, if it is already");
        for (int stage = 1; stage <= 2; stage++) {
            for (int i = 1; i <= 3; i++) {
                DealtSecret x = Deals.usualAt(stage);
                Checks.yes("corrupt", x.corrupt(i));
                Checks.no("corrupt again", x.corrupt(i));
                Deals.advanced(x, 2);
                Checks.no("corrupt in the next stage", x.corrupt(i));
                x.advance();
                for (int other = 1; other <= 3; other++) {
                    Checks.same("accuse " + other, x.accuse(other), other == i);
                }
            }
        }
    }

    private static void accuseParticipants() {
        Checks.about("Promise 9: IllegalArgumentException when there is no participant i");
        for (int n = 1; n <= 7; n++) {
            int count = n;
            Deals.bounds("accuse of " + n, 1, n, () -> Deals.zerosAt(3, count, 1),
                    (x, i) -> Checks.no("accuse " + i, x.accuse(i)));
            Deals.bounds("accuse of corrupt " + n, 1, n, () -> allCorrupt(count),
                    (x, i) -> Checks.yes("accuse " + i, x.accuse(i)));
        }
    }

    private static DealtSecret allCorrupt(int n) {
        DealtSecret x = Deals.zerosAt(1, n, n);
        for (int i = 1; i <= n; i++) {
            x.corrupt(i);
        }
        return Deals.advanced(x, 3);
    }

    private static void accuseOnlyTheCorrupt() {
        Checks.about("Promise 9: False, changing nothing, if it is not corrupt or has complained");
        DealtSecret x = Deals.zerosAt(2, 4, 4);
        x.corrupt(1);
        x.corrupt(2);
        x.tamper(2, 1, 0);
        x.tamper(3, 1, 0);
        x.advance();
        Checks.same("3 complains by itself", x.complaints(), 1);
        Checks.no("3 is not corrupt and has complained", x.accuse(3));
        Checks.no("4 is not corrupt", x.accuse(4));
        Checks.same("nothing changed", x.complaints(), 1);
        Checks.yes("1 is corrupt, with a good share", x.accuse(1));
        Checks.no("1 has complained", x.accuse(1));
        Checks.same("complaints", x.complaints(), 2);
        Checks.yes("2 is corrupt, with a bad share", x.accuse(2));
        Checks.no("2 has complained", x.accuse(2));
        Checks.same("complaints", x.complaints(), 3);
    }

    private static void answerParticipants() {
        Checks.about("Promise 10: no participant i, or it has not complained");
        for (int n = 2; n <= 7; n++) {
            for (int complaining = 1; complaining <= n; complaining++) {
                for (int i : Deals.edges(1, n)) {
                    DealtSecret x = oneComplains(n, complaining);
                    if (i == complaining) {
                        Checks.no("a wrong answer to " + i, x.answer(i, 1, 0));
                        Checks.yes("a right answer to " + i, x.answer(i, 0, 0));
                    } else {
                        Deals.refused(x, "answer to " + i + " of " + n,
                                within(i, 1, n) ? Deals.MISSING : Deals.ARGUMENT, () -> x.answer(i, 0, 0));
                    }
                }
            }
        }
        for (int i : Deals.edges(1, 1)) {
            DealtSecret alone = Deals.zerosAt(4, 1, 1);
            Deals.refused(alone, "answer to " + i + " of 1", i == 1 ? Deals.MISSING : Deals.ARGUMENT,
                    () -> alone.answer(i, 0, 0));
        }
        Checks.about("Promise 10: v is 0 if the deal is not blind");
        DealtSecret x = Deals.usualAt(2, false);
        x.tamper(3, 0, 0);
        Deals.advanced(x, 4);
        Checks.yes("answer", x.answer(3, 5, 6));
        Checks.same("v", x.share(3, 1), 0);
        Checks.no("u + 8 v is right, but v is not taken", x.answer(3, 5 - 8, 1));
        Checks.same("v", x.share(3, 1), 0);
    }

    private static DealtSecret oneComplains(int n, int i) {
        DealtSecret x = Deals.zerosAt(2, n, 2);
        x.tamper(i, 1, 0);
        return Deals.advanced(x, 4);
    }

    private static void openParticipants() {
        Checks.about("Promise 11: IllegalArgumentException when there is no participant i");
        for (int n = 1; n <= 7; n++) {
            int count = n;
            Deals.bounds("open of " + n, 1, n, () -> Deals.zerosAt(5, count, 1),
                    (x, i) -> Checks.yes("open " + i, x.open(i)));
        }
    }

    private static void openFits() {
        Checks.about("Promise 11: Participant i lays its share open: whether it fits");
        for (int bad = 1; bad <= 7; bad++) {
            DealtSecret x = Deals.zerosAt(2, 7, 7);
            x.corrupt(bad);
            x.tamper(bad, 0, 1);
            Deals.advanced(x, 5);
            for (int i = 1; i <= 7; i++) {
                Checks.same("open " + i + " with bad " + bad, x.open(i), i != bad);
            }
            Checks.same("opened", x.opened(), 6);
            Deals.refused(x, "secret of 6 with t 7", Deals.MISSING, x::secret);
            Checks.yes("it shows a pair that fits", x.show(bad, 0, 0));
            Checks.same("opened", x.opened(), 7);
            Checks.no("its share is bad still", x.open(bad));
            Checks.same("secret", x.secret(), 0);
        }
    }

    private static void showParticipants() {
        Checks.about("Promise 12: Exceptions as for open: when there is no participant i");
        for (int n = 1; n <= 7; n++) {
            int count = n;
            Deals.bounds("show of " + n, 1, n, () -> Deals.zerosAt(5, count, 1),
                    (x, i) -> Checks.yes("show " + i, x.show(i, 0, 0)));
            Deals.bounds("show of a bad pair of " + n, 1, n, () -> Deals.zerosAt(5, count, 1),
                    (x, i) -> Checks.no("show " + i, x.show(i, 1, 0)));
        }
    }

    private static void showNotBlind() {
        Checks.about("Promise 12: v as it is told, also if the deal is not blind");
        DealtSecret x = Deals.usualAt(5, false);
        Checks.no("the right u with v 1", x.show(2, 2, 1));
        Checks.no("the right u with v -1", x.show(2, 2, -1));
        Checks.same("opened", x.opened(), 0);
        Checks.yes("u and v that fit together", x.show(2, 2 - 8, 1));
        Checks.same("opened", x.opened(), 1);
        Checks.yes("v that is 0 modulo q", x.show(2, 2, 11));
        Checks.same("relation", x.relation(), 8);
        Checks.same("the share's v stays 0", x.share(2, 1), 0);
        x.open(1);
        Checks.same("the line through 10 at 1 and 5 at 2", x.secret(), 4);
    }

    // ---- promises 13 and 14

    private static void secretOfFewerThanT() {
        Checks.about("Promise 13: NoSuchElementException when fewer than t have one");
        for (int n = 1; n <= 7; n++) {
            for (int t = 1; t <= n; t++) {
                DealtSecret x = Deals.zerosAt(1, n, t);
                x.coefficient(0, 9, 1);
                Deals.advanced(x, 5);
                for (int i = n; i >= 1; i--) {
                    String before = Checks.outcome(() -> x.secret());
                    Checks.same("secret of " + (n - i) + " with t " + t, before,
                            n - i < t ? Deals.MISSING.getName() : "9");
                    x.open(i);
                }
                Checks.same("secret of all", x.secret(), 9);
            }
        }
    }

    /** With one false u at a time, each number's weight shows, and that only the lowest t have one. */
    private static void secretOfTheLowest() {
        Checks.about("Promise 13: the t participants with the lowest numbers of those that have a kept pair");
        for (int t = 1; t <= 6; t++) {
            for (int first = 1; first + t <= 7; first++) {
                for (int other = 1; other <= 7; other++) {
                    checkLowest(t, first, other);
                }
            }
        }
    }

    /** All from the first on lay open, from the highest down; the other one has u = 3 and the rest 0. */
    private static void checkLowest(int t, int first, int other) {
        DealtSecret x = Deals.zerosAt(5, 7, t);
        for (int i = 7; i >= first; i--) {
            Checks.yes("show " + i, i == other ? x.show(i, -8, 1) : x.open(i));
        }
        int due = 0;
        if (within(other, first, first + t - 1)) {
            due = 3;
            for (int j = first; j < first + t; j++) {
                if (j != other) {
                    int inverse = Numbers.big(j - other).modInverse(Numbers.big(11)).intValue();
                    due = due * j * inverse % 11;
                }
            }
        }
        Checks.same("secret of " + first + " .. with t " + t + ", 3 at " + other, x.secret(), due);
    }

    private static void relationOrNone() {
        Checks.about("Promise 14: NoSuchElementException when there is none");
        for (int n = 1; n <= 7; n++) {
            DealtSecret x = Deals.zerosAt(5, n, n);
            Deals.refused(x, "relation of nobody", Deals.MISSING, x::relation);
            for (int i = 1; i <= n; i++) {
                x.show(i, -8 * i, i);
            }
            Deals.refused(x, "relation of one pair each", Deals.MISSING, x::relation);
            Checks.yes("a second pair of the last", x.show(n, -8 * n - 8, n + 1));
            Checks.same("relation", x.relation(), 8);
        }
    }

    // ---- promises 15 to 20

    private static void stageNumbers() {
        Checks.about("Promise 15: The stage");
        for (int stage = 0; stage <= 6; stage++) {
            Checks.same("stage", Deals.usualAt(stage).stage(), stage);
            Checks.same("stage", Deals.usualAt(stage, false).stage(), stage);
        }
        DealtSecret x = Deals.usualAt(6);
        x.begin(1, 1, false);
        Checks.same("stage of a new deal", x.stage(), 1);
    }

    private static void commitmentKinds() {
        Checks.about("Promise 16: 0 before, and when there is none");
        int[] due = {4, 6};
        for (int stage = 0; stage <= 6; stage++) {
            DealtSecret x = Deals.usualAt(stage);
            for (int k : Deals.edges(0, 1)) {
                boolean is = stage >= 2 && within(k, 0, 1);
                Checks.same("c(" + k + ") in stage " + stage, x.commitment(k), is ? due[k] : 0);
            }
        }
        for (int t = 1; t <= 7; t++) {
            DealtSecret x = Deals.zerosAt(2, 7, t);
            for (int k : Deals.edges(0, t - 1)) {
                Checks.same("c(" + k + ") of " + t, x.commitment(k), within(k, 0, t - 1) ? 1 : 0);
            }
            x.begin(7, t, true);
            for (int k : Deals.edges(0, t - 1)) {
                Checks.same("c(" + k + ") of the next deal", x.commitment(k), 0);
            }
        }
    }

    private static void shareKinds() {
        Checks.about("Promise 17: -1 before it got one, when there is no participant i, or what is another");
        int[][] due = {{10, 7}, {2, 1}, {5, 6}};
        for (int stage = 0; stage <= 5; stage++) {
            DealtSecret x = Deals.usualAt(stage);
            for (int i : Deals.edges(1, 3)) {
                for (int what : Deals.edges(0, 1)) {
                    boolean is = stage >= 2 && within(i, 1, 3) && within(what, 0, 1);
                    Checks.same("share " + i + " " + what + " in stage " + stage, x.share(i, what),
                            is ? due[i - 1][what] : -1);
                }
            }
        }
        Checks.same("share in stage 6", Deals.usualAt(6).share(1, 1), 1);
        DealtSecret x = Deals.usualAt(2);
        x.begin(3, 2, true);
        Checks.same("share of a new deal", x.share(1, 0), -1);
        Checks.same("share of a new deal", x.share(1, 1), -1);
        for (int n = 1; n <= 7; n++) {
            DealtSecret y = Deals.zerosAt(2, n, 1);
            for (int i : Deals.edges(1, n)) {
                Checks.same("share " + i + " of " + n, y.share(i, 0), within(i, 1, n) ? 0 : -1);
            }
        }
    }

    private static void fitsKinds() {
        Checks.about("Promise 18: false before it got one and when there is no participant i");
        for (int n = 1; n <= 7; n++) {
            for (int stage = 1; stage <= 5; stage++) {
                DealtSecret x = Deals.zerosAt(stage, n, 1);
                for (int i : Deals.edges(1, n)) {
                    Checks.same("fits " + i + " of " + n + " in stage " + stage, x.fits(i),
                            stage >= 2 && within(i, 1, n));
                }
            }
        }
        DealtSecret x = Deals.zerosAt(2, 7, 7);
        x.begin(7, 7, true);
        Checks.no("fits in a new deal", x.fits(1));
        DealtSecret disqualified = Deals.usualAt(6);
        Checks.no("a share that does not fit in stage 6", disqualified.fits(1));
        Checks.yes("one that fits in stage 6", disqualified.fits(2));
    }

    private static void complaintsCount() {
        Checks.about("Promise 19: How many complain");
        for (int n = 1; n <= 7; n++) {
            for (int bad = 0; bad <= n; bad++) {
                DealtSecret x = Deals.zerosAt(2, n, n);
                for (int i = n; i > n - bad; i--) {
                    x.tamper(i, 1, 0);
                }
                Checks.same("before", x.complaints(), 0);
                x.advance();
                Checks.same("complaints", x.complaints(), bad);
                x.advance();
                Checks.same("complaints in stage " + x.stage(), x.complaints(), bad);
            }
        }
        Checks.same("complaints after disqualification", Deals.usualAt(6).complaints(), 1);
        Checks.same("complaints of none", Deals.usualAt(5).complaints(), 0);
    }

    private static void openedCount() {
        Checks.about("Promise 20: How many participants have a kept pair");
        for (int stage = 0; stage <= 6; stage++) {
            Checks.same("opened in stage " + stage, Deals.usualAt(stage).opened(), 0);
        }
        for (int n = 1; n <= 7; n++) {
            DealtSecret x = Deals.zerosAt(5, n, 1);
            for (int i = 1; i <= n; i++) {
                Checks.same("opened", x.opened(), i - 1);
                x.show(i, 1, 0);
                Checks.same("opened after a bad pair", x.opened(), i - 1);
                x.open(i);
                Checks.same("opened", x.opened(), i);
                x.show(i, -8, 1);
                Checks.same("opened after a second pair", x.opened(), i);
            }
        }
    }

    // ---- "An object is used for at most 512 calls after it has been made"

    private static void lastCallOfManyDeals() {
        Checks.about("An object is used for at most 512 calls: many deals");
        DealtSecret x = Deals.small();
        for (int call = 1; call < CALLS; call++) {
            x.begin(1 + call % 7, 1, call % 2 == 0);
        }
        Checks.same("the 512th call", x.stage(), 1);

        DealtSecret y = Deals.small();
        int deals = CALLS / 8;
        for (int deal = 1; deal <= deals; deal++) {
            y.begin(7, 1, true);
            y.coefficient(0, deal, -deal);
            for (int stage = 2; stage <= 5; stage++) {
                Checks.same("advance", y.advance(), stage);
            }
            Checks.yes("open", y.open(7));
            Checks.same("the " + 8 * deal + "th call", y.secret(), deal % 11);
        }
    }

    private static void lastCallOfOneDeal() {
        Checks.about("An object is used for at most 512 calls: one deal with many answers or pairs");
        DealtSecret x = Deals.small();
        x.begin(2, 2, true);
        x.advance();
        x.tamper(1, 1, 0);
        x.advance();
        x.advance();
        for (int call = 6; call < CALLS; call++) {
            Checks.same("call " + call, x.answer(1, -8 * call, call % 5 == 0 ? call + 1 : call), call % 5 != 0);
        }
        Checks.same("the 512th call", x.advance(), 5);

        DealtSecret y = Deals.small();
        y.begin(1, 1, true);
        for (int stage = 2; stage <= 5; stage++) {
            y.advance();
        }
        for (int call = 6; call < CALLS; call++) {
            Checks.same("call " + call, y.show(1, call % 5 == 0 ? -8 * call + 1 : -8 * call, call), call % 5 != 0);
        }
        Checks.same("the 512th call: the first pair is kept still", y.secret(), 7);
    }

    private static void lastCallAfterRefusals() {
        Checks.about("An object is used for at most 512 calls: refused calls");
        DealtSecret x = Deals.small();
        x.begin(7, 7, true);
        for (int call = 2; call < CALLS; call++) {
            int wrong = call;
            Checks.refused("call " + call, Deals.ARGUMENT, () -> x.coefficient(wrong + 5, 1, 1));
        }
        Checks.same("the 512th call", x.advance(), 2);
    }
}
