/** Each promise of the document by itself. No object is used for more than 512 calls. */
public final class PromisesTest {
    private static final int[] NO_PARTICIPANT = {0, 4, -1, 7, 8, Deals.LEAST, Deals.GREATEST};
    private static final int[] NO_COEFFICIENT = {2, -1, 3, 7, Deals.LEAST, Deals.GREATEST};

    public static void main(String[] args) {
        newObject();
        soundGroups();
        unsoundGroups();
        begin();
        beginAnew();
        coefficient();
        advance();
        advanceToDisqualified();
        tamper();
        forge();
        corrupt();
        accuse();
        answer();
        open();
        show();
        secret();
        relation();
        commitmentShareAndFits();
        counts();
        Checks.end("PromisesTest");
    }

    private static void newObject() {
        DealtSecret x = Deals.small();
        Checks.same("stage of a new object", x.stage(), 0);
        Checks.same("complaints of a new object", x.complaints(), 0);
        Checks.same("opened of a new object", x.opened(), 0);
        for (int i = -1; i <= 8; i++) {
            Checks.same("commitment of a new object", x.commitment(i), 0);
            Checks.same("share of a new object", x.share(i, 0), -1);
            Checks.same("share of a new object", x.share(i, 1), -1);
            Checks.no("fits of a new object", x.fits(i));
        }
        DealtSecret other = Deals.usualAt(2);
        Checks.same("another object's stage", other.stage(), 2);
        Checks.same("objects are apart", x.stage(), 0);
    }

    private static void checkGroup(DealtSecret x, int p, int q, int g, int h) {
        String name = p + " " + q + " " + g + " " + h + ": group ";
        Checks.same(name + "0", x.group(0), p);
        Checks.same(name + "1", x.group(1), q);
        Checks.same(name + "2", x.group(2), g);
        Checks.same(name + "3", x.group(3), h);
        for (int what : new int[] {-1, 4, 5, Deals.LEAST, Deals.GREATEST}) {
            Checks.same(name + what, x.group(what), 0);
        }
    }

    private static void soundGroups() {
        int[][] sound = {
            {7, 3, 2, 4}, {7, 3, 4, 2}, {11, 5, 3, 4}, {11, 5, 9, 5}, {23, 11, 4, 9}, {23, 11, 2, 18},
            {67, 11, 64, 59}, {2039, 1019, 9, 4}, {2147483579, 1073741789, 4, 9},
            {2147483647, 331, 272122089, 1761855083}, {2147483647, 7, 1752599774, 1205362885},
        };
        for (int[] s : sound) {
            checkGroup(new DealtSecret(s[0], s[1], s[2], s[3]), s[0], s[1], s[2], s[3]);
        }
    }

    private static void unsoundGroups() {
        int[][] unsound = {
            {91, 3, 16, 9}, {2147117569, 181, 2379923, 1926704189},
            {31, 15, 2, 4}, {5, 4, 2, 3}, {19, 9, 4, 5}, {23, 22, 4, 9}, {23, 1, 4, 9},
            {23, 7, 4, 9}, {23, 2, 22, 22}, {23, 2, 22, 4}, {3, 2, 2, 2}, {2, 1, 2, 3},
            {23, 11, 4, 4}, {23, 11, 5, 9}, {23, 11, 4, 5}, {23, 11, 22, 9}, {23, 11, 4, 22},
            {23, 11, 1, 9}, {23, 11, 4, 1}, {23, 11, 0, 9}, {23, 11, 4, 0}, {23, 11, 23, 9}, {23, 11, 4, 23},
            {23, 11, 27, 9}, {23, 11, 4, 32}, {23, 11, 24, 9}, {23, 11, 4, 24}, {23, 11, -19, 9}, {23, 11, 4, -14},
            {23, -11, 4, 9}, {-23, 11, 4, 9}, {23, 0, 4, 9}, {0, 11, 4, 9}, {0, 0, 0, 0}, {1, 1, 1, 1}, {1, 5, 4, 9},
            {-1, -1, -1, -1}, {Deals.LEAST, 11, 4, 9}, {23, Deals.LEAST, 4, 9}, {Deals.LEAST, -1, 4, 9},
            {Deals.GREATEST, Deals.GREATEST, Deals.GREATEST, Deals.LEAST}, {15, 7, 2, 4}, {25, 3, 4, 9},
        };
        for (int[] s : unsound) {
            checkGroup(new DealtSecret(s[0], s[1], s[2], s[3]), 2039, 1019, 4, 9);
        }
    }

    private static void begin() {
        for (int n = 1; n <= 7; n++) {
            for (int t = 1; t <= n; t++) {
                DealtSecret x = Deals.small();
                x.begin(n, t, t % 2 == 0);
                Checks.same("stage after begin", x.stage(), 1);
                x.advance();
                for (int k = 0; k <= 8; k++) {
                    Checks.same("commitment to nothing", x.commitment(k), k < t ? 1 : 0);
                    Checks.same("share of nothing", x.share(k, 0), k >= 1 && k <= n ? 0 : -1);
                }
            }
        }
        int[][] wrong = {{0, 0}, {0, 1}, {-1, 1}, {8, 1}, {8, 8}, {3, 0}, {3, 4}, {3, -1}, {7, 8}, {Deals.LEAST, 1},
            {Deals.GREATEST, 1}, {3, Deals.LEAST}, {3, Deals.GREATEST}};
        for (int stage = 0; stage <= 6; stage++) {
            for (int[] w : wrong) {
                Deals.refusedAt(stage, "begin " + w[0] + " " + w[1], Deals.ARGUMENT, x -> x.begin(w[0], w[1], false));
            }
        }
        beginInSmallGroup(7, 3, 2, 4);
        beginInSmallGroup(11, 5, 3, 4);
        beginInSmallGroup(2147483647, 7, 1752599774, 1205362885);
    }

    private static void beginInSmallGroup(int p, int q, int g, int h) {
        for (int n = 1; n <= 7; n++) {
            int count = n;
            DealtSecret x = new DealtSecret(p, q, g, h);
            if (n < q) {
                x.begin(n, 1, true);
                Checks.same("stage after begin", x.stage(), 1);
            } else {
                Deals.refused(x, "begin " + n + " with q " + q, Deals.ARGUMENT, () -> x.begin(count, 1, true));
            }
        }
    }

    private static void beginAnew() {
        for (int stage = 1; stage <= 6; stage++) {
            DealtSecret x = Deals.usualAt(stage);
            if (stage <= 2) {
                x.corrupt(1);
            }
            if (stage == 5) {
                x.open(1);
                x.show(1, 0, 0);
                x.open(2);
            }
            x.begin(3, 2, true);
            DealtSecret untouched = Deals.small();
            untouched.begin(3, 2, true);
            Checks.yes("a deal begun anew from stage " + stage, Deals.seen(x).equals(Deals.seen(untouched)));
            Checks.yes("nobody is corrupt", x.corrupt(1));
            x.begin(3, 2, true);
            x.advance();
            Checks.same("coefficients are 0 again", x.commitment(0) * 10 + x.commitment(1), 11);
            Checks.same("shares are 0 again", x.share(3, 0) + x.share(3, 1), 0);
            x.tamper(1, 1, 0);
            x.advance();
            Checks.same("the one that was corrupt complains", x.complaints(), 1);
        }
        answersAreForgotten();
        openingsAreForgotten();
    }

    private static void answersAreForgotten() {
        DealtSecret x = Deals.usualAt(2);
        x.tamper(1, 1, 1);
        x.advance();
        x.advance();
        Checks.yes("answer", x.answer(1, 10, 7));
        x.begin(3, 2, true);
        x.advance();
        x.tamper(1, 1, 1);
        x.advance();
        x.advance();
        Checks.same("an answer of the deal before does not count", x.advance(), 6);
    }

    private static void openingsAreForgotten() {
        DealtSecret x = Deals.usualAt(5);
        x.open(1);
        x.open(2);
        x.show(1, 0, 0);
        Checks.same("relation", x.relation(), 8);
        x.begin(3, 2, true);
        for (int i = 0; i < 4; i++) {
            x.advance();
        }
        Checks.same("opened anew", x.opened(), 0);
        Deals.refused(x, "relation", Deals.MISSING, x::relation);
        Deals.refused(x, "secret", Deals.MISSING, x::secret);
    }

    private static void coefficient() {
        for (int stage = 0; stage <= 6; stage++) {
            if (stage != 1) {
                Deals.refusedAt(stage, "coefficient", Deals.STATE, x -> x.coefficient(0, 1, 1));
            }
            for (int k : NO_COEFFICIENT) {
                Deals.refusedAt(stage, "coefficient " + k, stage == 1 ? Deals.ARGUMENT : Deals.STATE, x -> x.coefficient(k, 1, 1));
            }
        }
        checkCoefficients(true, 7, 2, 3, 5);
        checkCoefficients(true, 18, -9, -8, 16);
        checkCoefficients(true, 7 - 11 * 1000, 2 + 11 * 1000, 3 + 11 * 77, 5 - 11 * 77);
        checkCoefficients(false, 7, 2, 3, 5);
        checkCoefficients(false, -4, 0, 14, -1);
        DealtSecret x = Deals.small();
        x.begin(1, 1, true);
        x.coefficient(0, Deals.LEAST, Deals.GREATEST);
        x.advance();
        Checks.same("the least int modulo 11", x.share(1, 0), 9);
        Checks.same("the greatest int modulo 11", x.share(1, 1), 1);
    }

    private static void checkCoefficients(boolean blind, int a0, int b0, int a1, int b1) {
        DealtSecret x = Deals.small();
        x.begin(3, 2, blind);
        x.coefficient(0, 1, 1);
        x.coefficient(0, a0, b0);
        x.coefficient(1, a1, b1);
        x.advance();
        int[] shares = blind ? new int[] {10, 7, 2, 1, 5, 6} : new int[] {10, 0, 2, 0, 5, 0};
        for (int i = 1; i <= 3; i++) {
            Checks.same("first number of " + i, x.share(i, 0), shares[2 * i - 2]);
            Checks.same("second number of " + i, x.share(i, 1), shares[2 * i - 1]);
        }
        Checks.same("c(0)", x.commitment(0), blind ? 4 : 8);
        Checks.same("c(1)", x.commitment(1), blind ? 6 : 18);
    }

    private static void advance() {
        DealtSecret x = Deals.usualAt(1);
        for (int stage = 2; stage <= 5; stage++) {
            Checks.same("advance", x.advance(), stage);
            Checks.same("stage", x.stage(), stage);
        }
        for (int stage : new int[] {0, 5, 6}) {
            DealtSecret y = Deals.usualAt(stage);
            Deals.refused(y, "advance", Deals.STATE, y::advance);
        }
        DealtSecret y = Deals.usualAt(2);
        y.corrupt(1);
        y.tamper(1, 1, 1);
        y.tamper(2, 1, 1);
        y.tamper(3, 9, 0);
        y.advance();
        Checks.same("only who is not corrupt and has a share that does not fit complains", y.complaints(), 1);
        Checks.same("another pair that fits is no reason", y.share(3, 0), 9);
        Checks.same("fewer than t complaints", y.advance(), 4);
        Checks.yes("answer of 2", y.answer(2, 2, 1));
        Checks.same("all complaints answered", y.advance(), 5);
        Checks.no("the corrupt one's share is still bad", y.open(1));
    }

    private static void advanceToDisqualified() {
        for (int t = 1; t <= 4; t++) {
            for (int bad = 0; bad <= 4; bad++) {
                DealtSecret x = Deals.small();
                x.begin(4, t, false);
                x.advance();
                for (int i = 1; i <= bad; i++) {
                    x.tamper(i, 1, 0);
                }
                x.advance();
                Checks.same("complaints", x.complaints(), bad);
                Checks.same(bad + " complaints with t " + t, x.advance(), bad >= t ? 6 : 4);
            }
        }
        DealtSecret x = Deals.usualAt(2);
        x.tamper(2, 1, 1);
        x.advance();
        x.advance();
        Checks.no("a bad answer", x.answer(2, 3, 3));
        Checks.same("a complaint with a bad answer", x.advance(), 6);
        Checks.same("the bad answer is the share", x.share(2, 0) * 100 + x.share(2, 1), 303);
        groundlessComplaint();
    }

    private static void groundlessComplaint() {
        DealtSecret x = Deals.usualAt(2);
        x.corrupt(3);
        x.advance();
        Checks.yes("accuse", x.accuse(3));
        x.advance();
        Checks.yes("the accuser's share fits", x.fits(3));
        Checks.same("but its complaint was not answered", x.advance(), 6);
    }

    private static void tamper() {
        for (int stage = 0; stage <= 6; stage++) {
            if (stage != 2) {
                Deals.refusedAt(stage, "tamper", Deals.STATE, x -> x.tamper(1, 1, 1));
            }
            for (int i : NO_PARTICIPANT) {
                Deals.refusedAt(stage, "tamper " + i, stage == 2 ? Deals.ARGUMENT : Deals.STATE, x -> x.tamper(i, 1, 1));
            }
        }
        DealtSecret x = Deals.usualAt(2);
        x.tamper(2, -1, 25);
        checkShare(x, 2, 10, 3, false);
        checkShare(x, 1, 10, 7, true);
        checkShare(x, 3, 5, 6, true);
        x.tamper(2, 13, -10);
        checkShare(x, 2, 2, 1, true);
        x.tamper(3, 9, 11);
        checkShare(x, 3, 9, 0, true);
        DealtSecret y = Deals.usualAt(2, false);
        y.tamper(1, 10, 7);
        checkShare(y, 1, 10, 0, true);
    }

    private static void checkShare(DealtSecret x, int i, int u, int v, boolean fits) {
        Checks.same("first number of " + i, x.share(i, 0), u);
        Checks.same("second number of " + i, x.share(i, 1), v);
        Checks.same("fits of " + i, x.fits(i), fits);
    }

    private static void forge() {
        for (int stage = 0; stage <= 6; stage++) {
            if (stage != 2) {
                Deals.refusedAt(stage, "forge", Deals.STATE, x -> x.forge(0, 1));
            }
            for (int k : NO_COEFFICIENT) {
                Deals.refusedAt(stage, "forge " + k, stage == 2 ? Deals.ARGUMENT : Deals.STATE, x -> x.forge(k, 1));
            }
            for (int c : new int[] {0, 23, -1, 24, Deals.LEAST, Deals.GREATEST}) {
                Deals.refusedAt(stage, "forge to " + c, stage == 2 ? Deals.ARGUMENT : Deals.STATE, x -> x.forge(0, c));
            }
        }
        DealtSecret x = Deals.usualAt(2);
        x.forge(0, 22);
        x.forge(1, 1);
        Checks.same("c(0) forged", x.commitment(0), 22);
        Checks.same("c(1) forged", x.commitment(1), 1);
        Checks.same("shares stay", x.share(1, 0), 10);
        x.forge(0, 1);
        Checks.yes("the share of 1 gives 1 by chance", x.fits(1));
        Checks.no("that of 2 does not", x.fits(2));
        exponentsAreWhole();
        x.advance();
        Checks.same("2 and 3 complain", x.complaints(), 2);
    }

    /** 66 has order 2 in p 67, so its power hangs on i^k being even, which i^k modulo 11 need not be. */
    private static void exponentsAreWhole() {
        DealtSecret x = new DealtSecret(67, 11, 64, 59);
        x.begin(7, 4, false);
        x.advance();
        x.forge(3, 66);
        for (int i = 1; i <= 7; i++) {
            Checks.same("66^(i^3) is 1 for i = " + i, x.fits(i), i % 2 == 0);
        }
        x.forge(3, 1);
        x.forge(2, 66);
        for (int i = 1; i <= 7; i++) {
            Checks.same("66^(i^2) is 1 for i = " + i, x.fits(i), i % 2 == 0);
        }
    }

    private static void corrupt() {
        for (int stage = 0; stage <= 6; stage++) {
            boolean right = stage == 1 || stage == 2;
            for (int i : NO_PARTICIPANT) {
                Deals.refusedAt(stage, "corrupt " + i, right ? Deals.ARGUMENT : Deals.STATE, x -> x.corrupt(i));
            }
            if (right) {
                DealtSecret x = Deals.usualAt(stage);
                Checks.yes("corrupt", x.corrupt(2));
                Checks.no("corrupt again", x.corrupt(2));
                Checks.yes("corrupt another", x.corrupt(3));
            } else {
                Deals.refusedAt(stage, "corrupt", Deals.STATE, x -> x.corrupt(2));
            }
        }
        DealtSecret x = Deals.usualAt(1);
        x.corrupt(2);
        x.advance();
        Checks.no("corrupt still", x.corrupt(2));
        x.tamper(2, 0, 0);
        x.advance();
        Checks.same("a corrupt one does not complain by itself", x.complaints(), 0);
    }

    private static void accuse() {
        for (int stage = 0; stage <= 6; stage++) {
            if (stage != 3) {
                Deals.refusedAt(stage, "accuse", Deals.STATE, x -> x.accuse(1));
            }
            for (int i : NO_PARTICIPANT) {
                Deals.refusedAt(stage, "accuse " + i, stage == 3 ? Deals.ARGUMENT : Deals.STATE, x -> x.accuse(i));
            }
        }
        DealtSecret x = Deals.usualAt(2);
        x.corrupt(1);
        x.tamper(2, 0, 0);
        x.advance();
        Checks.no("accuse by one that has complained and is not corrupt", x.accuse(2));
        Checks.no("accuse by one that is not corrupt", x.accuse(3));
        Checks.same("complaints", x.complaints(), 1);
        Checks.yes("accuse", x.accuse(1));
        Checks.no("accuse again", x.accuse(1));
        Checks.same("complaints", x.complaints(), 2);
        Checks.same("an accusation counts for the threshold", x.advance(), 6);
    }

    private static void answer() {
        for (int stage = 0; stage <= 6; stage++) {
            Deals.refusedAt(stage, "answer", stage == 4 ? Deals.MISSING : Deals.STATE, x -> x.answer(2, 2, 1));
            for (int i : NO_PARTICIPANT) {
                Deals.refusedAt(stage, "answer " + i, stage == 4 ? Deals.ARGUMENT : Deals.STATE, x -> x.answer(i, 1, 1));
            }
        }
        DealtSecret x = answering(true);
        Checks.no("a pair that does not fit", x.answer(2, 2, 2));
        checkShare(x, 2, 2, 2, false);
        Checks.yes("a pair that fits", x.answer(2, 13, -10));
        checkShare(x, 2, 2, 1, true);
        Checks.yes("another pair that fits", x.answer(2, -1, 22));
        checkShare(x, 2, 10, 0, true);
        Deals.refused(x, "answer to no complaint", Deals.MISSING, () -> x.answer(3, 5, 6));
        Checks.same("answered", x.advance(), 5);
        Checks.yes("the answer is laid open", x.open(2));
        x.open(1);
        Checks.same("the secret of 10 at 1 and 10 at 2", x.secret(), 10);

        DealtSecret late = answering(true);
        Checks.yes("first a pair that fits", late.answer(2, 2, 1));
        Checks.no("then one that does not", late.answer(2, 2, 2));
        Checks.same("the latest counts", late.advance(), 6);

        DealtSecret open = answering(false);
        Checks.yes("v is 0 if the deal is not blind", open.answer(2, 2, 5));
        checkShare(open, 2, 2, 0, true);
        Checks.same("answered", open.advance(), 5);
    }

    /** The usual deal, with a complaint of participant 2. */
    private static DealtSecret answering(boolean blind) {
        DealtSecret x = Deals.usualAt(2, blind);
        x.tamper(2, 9, 9);
        x.advance();
        Checks.same("advance", x.advance(), 4);
        return x;
    }

    private static void open() {
        for (int stage = 0; stage <= 6; stage++) {
            if (stage != 5) {
                Deals.refusedAt(stage, "open", Deals.STATE, x -> x.open(1));
            }
            for (int i : NO_PARTICIPANT) {
                Deals.refusedAt(stage, "open " + i, stage == 5 ? Deals.ARGUMENT : Deals.STATE, x -> x.open(i));
            }
        }
        DealtSecret x = Deals.usualAt(2);
        x.corrupt(2);
        x.tamper(2, 9, 9);
        x.advance();
        x.advance();
        Checks.same("advance", x.advance(), 5);
        Checks.no("open of a bad share", x.open(2));
        Checks.same("opened", x.opened(), 0);
        Checks.yes("open", x.open(1));
        Checks.yes("open again", x.open(1));
        Checks.same("opened", x.opened(), 1);
        Checks.yes("open", x.open(3));
        Checks.same("opened", x.opened(), 2);
        Checks.same("secret", x.secret(), 7);
        Deals.refused(x, "relation by the same pair twice", Deals.MISSING, x::relation);
    }

    private static void show() {
        for (int stage = 0; stage <= 6; stage++) {
            if (stage != 5) {
                Deals.refusedAt(stage, "show", Deals.STATE, x -> x.show(1, 10, 7));
            }
            for (int i : NO_PARTICIPANT) {
                Deals.refusedAt(stage, "show " + i, stage == 5 ? Deals.ARGUMENT : Deals.STATE, x -> x.show(i, 10, 7));
            }
        }
        for (int u = -11; u < 22; u++) {
            DealtSecret x = Deals.usualAt(5);
            for (int v = -11; v < 22; v++) {
                boolean fits = Math.floorMod(u + 8 * v, 11) == 9;
                Checks.same("show 3 " + u + " " + v, x.show(3, u, v), fits);
            }
            Checks.same("opened", x.opened(), 1);
            checkShare(x, 3, 5, 6, true);
        }
        DealtSecret y = Deals.usualAt(5, false);
        Checks.no("v is as told, also if the deal is not blind", y.show(1, 10, 1));
        Checks.yes("show with v 1", y.show(1, 2, 1));
        Checks.yes("open with v 0", y.open(1));
        Checks.same("relation", y.relation(), 8);
    }

    private static void secret() {
        for (int stage = 0; stage <= 6; stage++) {
            Deals.refusedAt(stage, "secret", stage == 5 ? Deals.MISSING : Deals.STATE, DealtSecret::secret);
        }
        for (int t = 1; t <= 7; t++) {
            for (int chosen = 0; chosen < 128; chosen++) {
                checkSecret(t, chosen);
            }
        }
        keptPairsMakeTheSecret();
    }

    private static void checkSecret(int t, int chosen) {
        DealtSecret x = new DealtSecret(2147483579, 1073741789, 4, 9);
        x.begin(7, t, true);
        for (int k = 0; k < t; k++) {
            x.coefficient(k, 1073741788 - 1234567 * k, 99 - k);
        }
        for (int stage = 2; stage <= 5; stage++) {
            x.advance();
        }
        for (int i = 7; i >= 1; i--) {
            if ((chosen >> (i - 1) & 1) == 1) {
                Checks.yes("open", x.open(i));
            }
        }
        Checks.same("opened", x.opened(), Integer.bitCount(chosen));
        if (Integer.bitCount(chosen) < t) {
            Deals.refused(x, "secret", Deals.MISSING, x::secret);
        } else {
            Checks.same("secret of " + chosen + " with t " + t, x.secret(), 1073741788);
        }
    }

    private static void keptPairsMakeTheSecret() {
        DealtSecret x = Deals.usualAt(5);
        x.open(3);
        x.open(2);
        Checks.same("of 2 and 3", x.secret(), 7);
        Checks.yes("another pair of 2", x.show(2, 10, 0));
        Checks.same("the first pair of a participant is kept", x.secret(), 7);
        Checks.no("a bad pair of 1", x.show(1, 1, 0));
        Checks.same("is not kept", x.secret(), 7);
        Checks.yes("another pair of 1", x.show(1, 0, 0));
        Checks.same("the lowest numbers count: 0 at 1 and 2 at 2", x.secret(), 9);
        Checks.yes("1's own share, too late", x.open(1));
        Checks.same("the first pair is kept", x.secret(), 9);
    }

    private static void relation() {
        for (int stage = 0; stage <= 6; stage++) {
            Deals.refusedAt(stage, "relation", stage == 5 ? Deals.MISSING : Deals.STATE, DealtSecret::relation);
        }
        DealtSecret x = Deals.usualAt(5);
        x.open(1);
        x.open(2);
        Checks.no("a bad pair", x.show(1, 1, 0));
        Deals.refused(x, "relation by two participants", Deals.MISSING, x::relation);
        Checks.yes("another pair of 2", x.show(2, 10, 0));
        Checks.same("relation", x.relation(), 8);
        Checks.yes("another pair of 1", x.show(1, 0, 0));
        Checks.yes("the first of 3", x.open(3));
        Checks.same("relation", x.relation(), 8);
        for (int u = 0; u < 11; u++) {
            DealtSecret y = Deals.usualAt(5);
            y.open(1);
            int v = Math.floorMod(-u * 7, 11);
            Checks.yes("a pair of 1 with u + 8 v = 0", y.show(1, u, v));
            if (v == 7) {
                Deals.refused(y, "relation", Deals.MISSING, y::relation);
            } else {
                Checks.same("relation by " + u + " " + v, y.relation(), 8);
            }
        }
        relationIsTheLogarithm();
    }

    private static void relationIsTheLogarithm() {
        int log = 0;
        long power = 1;
        while (power != 4) {
            power = power * 9 % 2039;
            log++;
        }
        DealtSecret x = new DealtSecret(2039, 1019, 9, 4);
        x.begin(1, 1, true);
        for (int stage = 2; stage <= 5; stage++) {
            x.advance();
        }
        x.open(1);
        Checks.yes("a second pair", x.show(1, -5 * log, 5));
        Checks.same("g to the relation is h", x.relation(), log);
    }

    private static void commitmentShareAndFits() {
        for (int stage = 0; stage <= 6; stage++) {
            DealtSecret x = Deals.usualAt(stage);
            boolean dealt = stage >= 2;
            Checks.same("c(0)", x.commitment(0), dealt ? 4 : 0);
            Checks.same("c(1)", x.commitment(1), dealt ? 6 : 0);
            for (int k : NO_COEFFICIENT) {
                Checks.same("c(" + k + ")", x.commitment(k), 0);
            }
            Checks.same("share 3 0", x.share(3, 0), dealt ? 5 : -1);
            Checks.same("share 3 1", x.share(3, 1), dealt ? 6 : -1);
            Checks.same("fits 3", x.fits(3), dealt);
            for (int i : NO_PARTICIPANT) {
                Checks.same("share " + i, x.share(i, 0), -1);
                Checks.same("share " + i, x.share(i, 1), -1);
                Checks.no("fits " + i, x.fits(i));
            }
            for (int what : new int[] {-1, 2, 3, Deals.LEAST, Deals.GREATEST}) {
                Checks.same("share 3 " + what, x.share(3, what), -1);
            }
        }
    }

    private static void counts() {
        DealtSecret x = Deals.usualAt(2);
        x.corrupt(1);
        x.tamper(2, 0, 0);
        Checks.same("nobody complains yet", x.complaints(), 0);
        x.advance();
        Checks.same("complaints", x.complaints(), 1);
        x.advance();
        x.answer(2, 2, 1);
        Checks.same("an answered complaint is one still", x.complaints(), 1);
        x.advance();
        Checks.same("and when the dealer is accepted", x.complaints(), 1);
        Checks.same("nothing is open", x.opened(), 0);
        x.show(2, 0, 0);
        Checks.same("a bad pair is not kept", x.opened(), 0);
        x.open(2);
        x.show(2, 10, 0);
        Checks.same("a participant counts once", x.opened(), 1);
        x.open(1);
        x.open(3);
        Checks.same("opened", x.opened(), 3);
        x.begin(1, 1, false);
        Checks.same("complaints of a new deal", x.complaints(), 0);
        Checks.same("opened of a new deal", x.opened(), 0);
    }
}
