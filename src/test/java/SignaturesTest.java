import java.math.BigInteger;

/** Promises 9 to 12: signatures, their marks, and the keys found again from them. */
public final class SignaturesTest {
    private static final int P = Edges.P;
    private static final int N = Edges.N;
    private static final int HALF = (N - 1) / 2;

    /** Secrets and messages whose R has an x of n or more: d, message, mark. */
    private static final int[][] HIGH_X = {
        {585553178, 155926, 3}, {865478461, 174605, 2}, {552640325, 460784, 3},
        {518321235, 493461, 2}, {1064353456, 845273, 3}, {1043204932, 1293084, 2}
    };

    /** Secrets and digests whose first k that is 1 .. n - 1 gives s = 0: d, digest, that k's r. */
    private static final int[][] ZERO_S = {
        {5, 51477832, 204450249}, {5, 113598063, 836263649}, {6, 650146817, 786416428},
        {9, 1063570365, 955554592}
    };

    /** Secrets and digests at the edges of s: d, digest, and the r and s that are due. */
    private static final int[][] EDGE_S = {
        {11, 494171975, 351783387, HALF}, {13, 547701904, 161870788, HALF},
        {11, 280491369, 170212351, HALF}, {11, 553281882, 962044379, HALF},
        {11, 695227331, 460742534, 1}, {13, 165212573, 491918622, 1},
        {11, 785009467, 638747933, 1}, {3, 200830939, 509575221, 1}
    };

    /** Secrets and digests whose first k is 1 or n - 1, so that R is G or its twin: d, digest. */
    private static final int[][] EDGE_K = {{4, 432719865}, {5, 6604323}, {5, 481118465}};

    /** Secrets and digests whose first k is 0, n, 2 * n or 2 * n + 1: d, digest. */
    private static final int[][] NO_K = {
        {6, 240598954}, {7, 78396696}, {3, 551030640}, {4, 68741853}, {4, 255750452},
        {5, 812718617}, {3, 1013627566}, {4, 200584276}
    };

    /**
     * Secrets and digests whose R has the x n - 1, n + 1 (n is x of none) or p - 3, the highest:
     * d, digest, and the r, s and mark that are due. R is even in the first two of each four, and s
     * was above (n - 1) / 2 in every second.
     */
    private static final int[][] EDGE_X = {
        {19, 56399070, N - 1, 319646392, 0}, {27, 103637734, N - 1, 47043232, 1},
        {25, 654354303, N - 1, 232463628, 1}, {5, 451248900, N - 1, 494356451, 0},
        {34, 183164679, 1, 79679334, 2}, {54, 349132338, 1, 26102759, 3},
        {5, 200983714, 1, 185489959, 3}, {27, 70279851, 1, 461017460, 2},
        {34, 78121649, P - 3 - N, 17050981, 2}, {25, 18467770, P - 3 - N, 378298391, 3},
        {19, 28881276, P - 3 - N, 172816565, 3}, {39, 109606798, P - 3 - N, 187877883, 2}
    };

    /** Secrets and digests for which only the 11th k is 1 .. n - 1, the latest that was found. */
    private static final int[][] LATE_K = {{9, 17698}, {7, 37304}, {8, 42775}, {6, 52715}};

    private static final Due DUE = new Due("SignaturesTest");

    public static void main(String[] args) {
        sign();
        signWithHighDigest();
        signPassesOverZero();
        signAtTheEdgesOfS();
        signAtTheEdgesOfK();
        signAtTheLastTry();
        signAtTheEdgesOfX();
        signRefuses();
        marks();
        markWithoutSignature();
        markStays();
        good();
        goodAtTheEdgesOfS();
        goodAtTheEdgesOfR();
        goodOfInfinity();
        goodRefuses();
        recover();
        recoverOfHighX();
        recoverWithEachMark();
        recoverAtTheEdgesOfR();
        recoverAtTheEdgesOfS();
        recoverBesideInfinity();
        recoverRefuses();
        DUE.end();
    }

    private static EvenCurveKeys withSecret(int d) {
        EvenCurveKeys keys = new EvenCurveKeys();
        keys.secret(0, d);
        return keys;
    }

    /** Holds a signature and its mark against the model's. */
    private static long signed(int d, long message) {
        EvenCurveKeys keys = withSecret(d);
        Model model = new Model();
        model.secret(0, d);
        long due = model.sign(0, message);
        String call = "sign of " + message + " with " + d;
        DUE.number(call, due, () -> keys.sign(0, message));
        DUE.number("mark after " + call, model.mark(), keys::mark);
        int r = Model.high(due);
        int s = Model.low(due);
        int mark = model.mark();
        DUE.truth("good after " + call, true, () -> keys.good(0, message, r, s));
        DUE.number("recover after " + call, model.code(0),
                () -> keys.recover(1, message, r, s, mark));
        return due;
    }

    private static void sign() {
        EvenCurveKeys keys = withSecret(5);
        DUE.number("sign(0, 7)", 3753173926405257435L, () -> keys.sign(0, 7));
        DUE.number("sign(0, 7) again", 3753173926405257435L, () -> keys.sign(0, 7));
        for (int d : new int[] {1, 2, 5, HALF, HALF + 1, 123456789, N - 1}) {
            for (long message : new long[] {0, 1, -1, 7, 1L << 40, Long.MIN_VALUE}) {
                signed(d, message);
            }
        }
    }

    private static void signWithHighDigest() {
        for (long z : new long[] {0, 1, N - 1, N, N + 1, (1 << 30) - 1}) {
            long message = Unmix.messageOf(z);
            DUE.number("digest of " + message, z, () -> Model.digest(message));
            signed(5, message);
            signed(123456789, message);
        }
    }

    private static void signPassesOverZero() {
        for (int[] row : ZERO_S) {
            long signature = signed(row[0], Unmix.messageOf(row[1]));
            DUE.truth("sign with s = 0 first", false, () -> Model.high(signature) == row[2]);
        }
    }

    private static void signAtTheEdgesOfS() {
        for (int[] row : EDGE_S) {
            long signature = signed(row[0], Unmix.messageOf(row[1]));
            DUE.number("r at an edge of s", row[2], () -> Model.high(signature));
            DUE.number("s at its edge", row[3], () -> Model.low(signature));
        }
    }

    private static void signAtTheEdgesOfK() {
        for (int[] row : EDGE_K) {
            long signature = signed(row[0], Unmix.messageOf(row[1]));
            DUE.number("r of G", 1, () -> Model.high(signature));
        }
        for (int[] row : NO_K) {
            long signature = signed(row[0], Unmix.messageOf(row[1]));
            DUE.truth("r of G", false, () -> Model.high(signature) == 1);
        }
    }

    /** How many k are looked at until one is 1 .. n - 1. */
    private static int tries(int d, long z) {
        for (int i = 1; i <= 64; i++) {
            long k = Model.h(Model.h(d, z), i) >>> 33;
            if (k >= 1 && k < N) {
                return i;
            }
        }
        return 65;
    }

    private static void signAtTheLastTry() {
        for (int[] row : LATE_K) {
            DUE.number("tries", 11, () -> tries(row[0], row[1]));
            signed(row[0], Unmix.messageOf(row[1]));
        }
    }

    private static void signAtTheEdgesOfX() {
        for (int[] row : EDGE_X) {
            long message = Unmix.messageOf(row[1]);
            long signature = signed(row[0], message);
            DUE.number("r at an edge of x", row[2], () -> Model.high(signature));
            DUE.number("s at an edge of x", row[3], () -> Model.low(signature));
            EvenCurveKeys keys = withSecret(row[0]);
            keys.sign(0, message);
            DUE.number("mark at an edge of x", row[4], keys::mark);
        }
    }

    private static void signRefuses() {
        EvenCurveKeys keys = withSecret(5);
        keys.open(1, keys.code(0));
        DUE.noSecret("sign without a secret", () -> keys.sign(1, 7));
        DUE.noSecret("sign of an empty slot", () -> keys.sign(2, 7));
        for (int slot : Edges.NO_SLOTS) {
            DUE.noSlot("sign of slot " + slot, () -> keys.sign(slot, 7));
        }
    }

    private static void marks() {
        EvenCurveKeys keys = withSecret(5);
        boolean[] seen = new boolean[2];
        for (int message = 0; message < 20; message++) {
            signed(5, message);
            keys.sign(0, message);
            seen[keys.mark()] = true;
        }
        DUE.truth("both marks come", true, () -> seen[0] && seen[1]);
        for (int[] row : HIGH_X) {
            EvenCurveKeys other = withSecret(row[0]);
            long signature = signed(row[0], row[1]);
            DUE.number("sign with a high x", signature, () -> other.sign(0, row[1]));
            DUE.number("mark of a high x", row[2], other::mark);
        }
    }

    private static void markWithoutSignature() {
        EvenCurveKeys keys = new EvenCurveKeys();
        DUE.number("mark of a new object", 0, keys::mark);
        DUE.noSecret("sign of an empty slot", () -> keys.sign(0, 1));
        DUE.noSlot("sign of no slot", () -> keys.sign(-1, 1));
        keys.secret(0, HIGH_X[0][0]);
        keys.prove(0, HIGH_X[0][1], 1);
        DUE.number("mark before a signature", 0, keys::mark);
        keys.sign(0, HIGH_X[0][1]);
        DUE.number("mark of a signature", 3, keys::mark);
        DUE.number("mark asked twice", 3, keys::mark);
    }

    private static void markStays() {
        EvenCurveKeys keys = withSecret(HIGH_X[0][0]);
        keys.sign(0, HIGH_X[0][1]);
        DUE.noSecret("sign of an empty slot", () -> keys.sign(1, 0));
        DUE.noSlot("sign of no slot", () -> keys.sign(6, 0));
        DUE.number("mark after throws", 3, keys::mark);
        keys.prove(0, 1, 2);
        keys.good(0, 1, 2, 3);
        keys.recover(1, 1, 1, 1, 0);
        keys.secret(0, 5);
        DUE.number("mark after other calls", 3, keys::mark);
        keys.sign(0, 7);
        DUE.number("mark after another sign", 0, keys::mark);
    }

    private static void good() {
        EvenCurveKeys keys = withSecret(5);
        keys.secret(1, N - 5);
        keys.secret(2, 6);
        int r = 873853901;
        int s = 128235739;
        keys.open(3, keys.code(0));
        DUE.truth("good", true, () -> keys.good(0, 7, r, s));
        DUE.truth("good without a secret", true, () -> keys.good(3, 7, r, s));
        DUE.truth("good of the other s", false, () -> keys.good(0, 7, r, N - s));
        DUE.truth("good of another message", false, () -> keys.good(0, 8, r, s));
        DUE.truth("good of the twin point", false, () -> keys.good(1, 7, r, s));
        DUE.truth("good of another point", false, () -> keys.good(2, 7, r, s));
        DUE.truth("good of r + 1", false, () -> keys.good(0, 7, r + 1, s));
        DUE.truth("good of s + 1", false, () -> keys.good(0, 7, r, s + 1));
        DUE.truth("good of -r", false, () -> keys.good(0, 7, -r, s));
        DUE.truth("good of -s", false, () -> keys.good(0, 7, r, -s));
        for (int wrong : Edges.NO_UNITS) {
            DUE.truth("good of r = " + wrong, false, () -> keys.good(0, 7, wrong, s));
            DUE.truth("good of s = " + wrong, false, () -> keys.good(0, 7, r, wrong));
        }
    }

    /** A secret d for which r and s sign the message, R being k * G. */
    private static int secretFor(long message, int k, int s) {
        BigInteger r = Model.multipleOfG(k).x().mod(Model.N);
        BigInteger z = Model.number(Model.digest(message));
        BigInteger product = Model.number(s).multiply(Model.number(k));
        return product.subtract(z).multiply(r.modInverse(Model.N)).mod(Model.N).intValue();
    }

    private static int rOf(int k) {
        return Model.multipleOfG(k).x().mod(Model.N).intValue();
    }

    private static void goodAtTheEdgesOfS() {
        for (int s : new int[] {1, 2, HALF - 1, HALF, HALF + 1, HALF + 2, N - 1}) {
            for (int k : new int[] {1, 2, 77}) {
                EvenCurveKeys keys = withSecret(secretFor(9, k, s));
                DUE.truth("good of s = " + s, s <= HALF, () -> keys.good(0, 9, rOf(k), s));
                // Modulo n it is the same, but it is not 1 .. (n - 1) / 2.
                DUE.truth("good of s + n", false, () -> keys.good(0, 9, rOf(k), s + N));
                DUE.truth("good of s - n", false, () -> keys.good(0, 9, rOf(k), s - N));
            }
        }
    }

    /** r is x of R modulo n, and both 1 and n + 1 are x of points: r = 1 is good with either. */
    private static void goodAtTheEdgesOfR() {
        for (int[] edge : Edges.X) {
            for (int k : new int[] {edge[1], N - edge[1]}) {
                int x = edge[0];
                int r = rOf(k);
                EvenCurveKeys keys = withSecret(secretFor(9, k, 5));
                DUE.truth("good of x = " + x, true, () -> keys.good(0, 9, r, 5));
                for (int wrong : new int[] {r - 1, r + 1, r + N, r - N}) {
                    DUE.truth("good of r = " + wrong, false, () -> keys.good(0, 9, wrong, 5));
                }
            }
        }
    }

    /** With z + r * d = 0 the sum of u * G and v * P is INFINITY, whatever s is. */
    private static void goodOfInfinity() {
        for (int d : new int[] {1, 5, N - 1}) {
            EvenCurveKeys keys = withSecret(d);
            BigInteger over = Model.number(d).modInverse(Model.N);
            int r = Model.number(-Model.digest(4)).multiply(over).mod(Model.N).intValue();
            for (int s : new int[] {1, 2, r, HALF}) {
                DUE.truth("good of INFINITY", false, () -> keys.good(0, 4, r, s));
            }
        }
    }

    private static void goodRefuses() {
        EvenCurveKeys keys = withSecret(5);
        DUE.empty("good of an empty slot", () -> keys.good(1, 7, 1, 1) ? 1 : 0);
        DUE.empty("good of an empty slot", () -> keys.good(1, 7, 0, 0) ? 1 : 0);
        for (int slot : Edges.NO_SLOTS) {
            DUE.noSlot("good of slot " + slot, () -> keys.good(slot, 7, 0, 0) ? 1 : 0);
        }
    }

    private static void recover() {
        EvenCurveKeys keys = withSecret(5);
        int r = 873853901;
        int s = 128235739;
        long code = keys.code(0);
        keys.secret(1, 9);
        DUE.number("recover", code, () -> keys.recover(1, 7, r, s, 0));
        DUE.number("code after recover", code, () -> keys.code(1));
        DUE.noSecret("sign after recover", () -> keys.sign(1, 7));
        DUE.truth("good after recover", true, () -> keys.good(1, 7, r, s));
        DUE.number("recover of the other s", code, () -> keys.recover(2, 7, r, N - s, 1));
        Model model = new Model();
        for (long message : new long[] {0, 7, -1, Unmix.messageOf(0), Unmix.messageOf(N)}) {
            for (int given : new int[] {1, 2, HALF, HALF + 1, N - 1}) {
                for (int mark = 0; mark < 2; mark++) {
                    int asked = mark;
                    DUE.number("recover", model.recover(0, message, r, given, mark),
                            () -> keys.recover(3, message, r, given, asked));
                    DUE.number("code after recover", model.code(0), () -> keys.code(3));
                }
            }
        }
    }

    private static void recoverOfHighX() {
        for (int[] row : HIGH_X) {
            EvenCurveKeys keys = withSecret(row[0]);
            long signature = keys.sign(0, row[1]);
            int r = Model.high(signature);
            int s = Model.low(signature);
            int mark = row[2];
            DUE.number("recover of a high x", keys.code(0),
                    () -> keys.recover(1, row[1], r, s, mark));
            DUE.number("recover of its twin", keys.code(0),
                    () -> keys.recover(2, row[1], r, N - s, mark ^ 1));
            DUE.truth("good of a high x", true, () -> keys.good(1, row[1], r, s));
        }
    }

    /** Holds one recover against the model's, and that a slot stays as it was if it throws. */
    private static void recovered(int slot, long message, int r, int s, int mark) {
        EvenCurveKeys keys = withSecret(9);
        Model model = new Model();
        model.secret(0, 9);
        String call = "recover of r = " + r + ", s = " + s + ", mark " + mark;
        String due = Due.outcome(() -> model.recover(slot, message, r, s, mark));
        DUE.same(call, Due.outcome(() -> keys.recover(slot, message, r, s, mark)), due);
        DUE.number("code after " + call, model.code(slot), () -> keys.code(slot));
        DUE.same("sign after " + call, Due.outcome(() -> keys.sign(slot, 7)),
                Due.outcome(() -> model.sign(slot, 7)));
    }

    /** With r = 1, R is one of four points: those with the x 1 and those with the x n + 1. */
    private static void recoverWithEachMark() {
        EvenCurveKeys keys = new EvenCurveKeys();
        BigInteger z = Model.number(Model.digest(7));
        int[] ks = {1, N - 1, Edges.K_OVER_N, N - Edges.K_OVER_N};
        for (int mark = 0; mark < 4; mark++) {
            int asked = mark;
            // For r = 1 the secret is s * k - z.
            BigInteger d = Model.number(5).multiply(Model.number(ks[mark])).subtract(z);
            long due = Model.codeOf(Model.multipleOfG(d.mod(Model.N).longValue()));
            DUE.number("recover of mark " + mark, due, () -> keys.recover(0, 7, 1, 5, asked));
        }
        DUE.notFit("recover of mark -1", () -> keys.recover(1, 7, 1, 5, -1));
        DUE.notFit("recover of mark 4", () -> keys.recover(1, 7, 1, 5, 4));
        DUE.number("code after throws", 0, () -> keys.code(1));
    }

    /** Around 1, n and p - n: the highest r whose r + n is x of a point, and the first without. */
    private static void recoverAtTheEdgesOfR() {
        for (int i = -20; i <= 20; i++) {
            for (int r : new int[] {i, P - N + i, N + i}) {
                for (int mark = 0; mark <= 3; mark++) {
                    recovered(Math.floorMod(i, 2), 3, r, 5, mark);
                }
            }
        }
        // These r have the R of the mark 2 or 0 modulo p or n, but none in their range.
        EvenCurveKeys keys = withSecret(9);
        DUE.notFit("recover of n + 1", () -> keys.recover(0, 3, N + 1, 5, 0));
        DUE.notFit("recover of 1 - n", () -> keys.recover(0, 3, 1 - N, 5, 2));
        DUE.notFit("recover of p + 2 - n", () -> keys.recover(0, 3, P + 2 - N, 5, 2));
        DUE.truth("the secret is still there", true, () -> keys.sign(0, 1) != 0);
    }

    private static void recoverAtTheEdgesOfS() {
        int[] edges = {
            Integer.MIN_VALUE, -1, 0, 1, 2, HALF, HALF + 1, N - 1, N, N + 1, P, Integer.MAX_VALUE
        };
        for (int s : edges) {
            for (int mark = 0; mark <= 3; mark++) {
                recovered(0, 3, 1, s, mark);
                recovered(1, 3, 1, s, mark);
            }
        }
    }

    /** With s * k = z the point is INFINITY; with the s beside it, it is not. */
    private static void recoverBesideInfinity() {
        for (int k : new int[] {1, 2, 5, Edges.K_UNDER_N, Edges.K_OVER_N, Edges.K_HIGHEST}) {
            Model.Point nonce = Model.multipleOfG(k);
            BigInteger z = Model.number(Model.digest(3));
            int none = z.multiply(Model.number(k).modInverse(Model.N)).mod(Model.N).intValue();
            int high = nonce.x().compareTo(Model.N) >= 0 ? 2 : 0;
            int mark = high + (nonce.isOdd() ? 1 : 0);
            EvenCurveKeys keys = withSecret(9);
            DUE.notFit("recover of INFINITY", () -> keys.recover(0, 3, rOf(k), none, mark));
            for (int s = none - 1; s <= none + 1; s++) {
                recovered(0, 3, rOf(k), s, mark);
                recovered(0, 3, rOf(k), s, mark ^ 1);
            }
        }
    }

    private static void recoverRefuses() {
        EvenCurveKeys keys = withSecret(5);
        for (int wrong : Edges.NO_UNITS) {
            DUE.notFit("recover of r = " + wrong, () -> keys.recover(0, 7, wrong, 1, 0));
            DUE.notFit("recover of r = " + wrong, () -> keys.recover(0, 7, wrong, 1, 2));
            DUE.notFit("recover of s = " + wrong, () -> keys.recover(0, 7, 1, wrong, 0));
        }
        for (int mark : new int[] {-1, 4, 5, -4, Integer.MIN_VALUE, Integer.MAX_VALUE}) {
            DUE.notFit("recover of mark " + mark, () -> keys.recover(0, 7, 1, 1, mark));
        }
        for (int slot : Edges.NO_SLOTS) {
            DUE.noSlot("recover into " + slot, () -> keys.recover(slot, 7, 0, 1, 9));
        }
        DUE.number("sign after throws", 3753173926405257435L, () -> keys.sign(0, 7));
    }
}
