import java.math.BigInteger;

/** Promises 13 to 17: proofs, bundles of them, and agreed secrets. */
public final class ProofsTest {
    private static final int P = Edges.P;
    private static final int N = Edges.N;
    private static final int[] SECRETS = {1, 2, 3, 5, 6, N / 2, 123456789, N - 2, N - 1};

    private static final Due DUE = new Due("ProofsTest");

    public static void main(String[] args) {
        prove();
        proveWithoutK();
        proveWithOddPoints();
        proveAtTheEdgesOfAux();
        proveAtTheEdgesOfX();
        proveRefuses();
        holds();
        holdsForAnyNonce();
        holdsAtTheEdges();
        holdsAtTheEdgesOfRx();
        holdsRefuses();
        bundleCounts();
        bundleOfNineKeepsEight();
        bundleTakesAnyNumbers();
        bundleRefuses();
        bundleKeepsThePoint();
        rightWithoutItems();
        right();
        rightWithWrongItems();
        rightOfInfinity();
        rightWeighsItsItems();
        agree();
        agreeWithOddPoints();
        agreeRefuses();
        DUE.end();
    }

    private static EvenCurveKeys withSecrets(int first, int second) {
        EvenCurveKeys keys = new EvenCurveKeys();
        keys.secret(0, first);
        keys.secret(1, second);
        return keys;
    }

    /** The secret of the even point with the same x. */
    private static long evenSecret(int d) {
        return Model.multipleOfG(d).isOdd() ? N - d : d;
    }

    private static int scalar(BigInteger value) {
        return value.mod(Model.N).intValue();
    }

    /** The s with which this rx holds, if k * G is the even point with the x rx. */
    private static int proofFor(int d, long message, int rx, long k) {
        BigInteger px = Model.multipleOfG(d).x();
        BigInteger e = Model.challenge(Model.number(rx), px, message);
        return scalar(e.multiply(Model.number(evenSecret(d))).add(Model.number(k)));
    }

    private static void prove() {
        EvenCurveKeys known = withSecrets(5, 6);
        DUE.number("prove(0, 7, 1)", 1722260626409278056L, () -> known.prove(0, 7, 1));
        for (int d : SECRETS) {
            EvenCurveKeys keys = withSecrets(d, 1);
            Model model = new Model();
            model.secret(0, d);
            for (long message : new long[] {0, 7, -1, Long.MIN_VALUE, Long.MAX_VALUE}) {
                for (long aux : new long[] {0, 1, -5, 1L << 50}) {
                    long due = model.prove(0, message, aux);
                    DUE.number("prove of " + message, due, () -> keys.prove(0, message, aux));
                    DUE.truth("holds of " + message, true,
                            () -> keys.holds(0, message, Model.high(due), Model.low(due)));
                }
            }
        }
    }

    /** The message for which prove takes k before it is taken modulo n. */
    private static long messageForK(int d, long aux, long k) {
        long masked = evenSecret(d) ^ (Model.h(aux, 23) >>> 34);
        long inner = Model.h(masked, Model.multipleOfG(d).x().longValue());
        return Unmix.second(k << 33, inner);
    }

    private static void proveWithoutK() {
        for (int d : new int[] {1, 5, N - 1}) {
            EvenCurveKeys keys = withSecrets(d, 1);
            Model model = new Model();
            model.secret(0, d);
            for (long k : new long[] {0, N, 2L * N}) {
                long none = messageForK(d, 3, k);
                long one = messageForK(d, 3, k + 1);
                DUE.notDone("prove with k = 0", () -> keys.prove(0, none, 3));
                DUE.number("prove with k = 1", model.prove(0, one, 3), () -> keys.prove(0, one, 3));
            }
            long last = messageForK(d, 3, N - 1);
            DUE.number("prove with k = -1", model.prove(0, last, 3), () -> keys.prove(0, last, 3));
        }
    }

    /** Holds a proof against the model's, and that it holds, alone and in a bundle. */
    private static long proved(int d, long message, long aux) {
        EvenCurveKeys keys = withSecrets(d, 1);
        Model model = new Model();
        model.secret(0, d);
        long due = model.prove(0, message, aux);
        String call = "prove of " + message + " with " + d;
        DUE.number(call, due, () -> keys.prove(0, message, aux));
        DUE.truth("holds after " + call, true,
                () -> keys.holds(0, message, Model.high(due), Model.low(due)));
        keys.bundle(0, message, Model.high(due), Model.low(due));
        DUE.truth("right after " + call, true, () -> keys.right(3));
        return due;
    }

    /** P even and odd, R even and odd, each with each. */
    private static void proveWithOddPoints() {
        DUE.truth("G is even", false, Model.G::isOdd);
        for (int d : new int[] {1, N - 1, 5, N - 5}) {
            for (int k : new int[] {1, N - 1, 2, N - 2}) {
                long proof = proved(d, messageForK(d, 3, k), 3);
                DUE.number("rx of " + k, Model.multipleOfG(k).x().longValue(),
                        () -> Model.high(proof));
            }
        }
    }

    /** The number that d is mixed with has 30 bits: the lowest and the highest, and d itself. */
    private static void proveAtTheEdgesOfAux() {
        for (int d : new int[] {1, 5, N - 5, N - 1}) {
            for (long mask : new long[] {0, 1, evenSecret(d), N - 1, N, (1 << 30) - 1}) {
                long aux = Unmix.first(mask << 34, 23);
                DUE.number("mask", mask, () -> Model.h(aux, 23) >>> 34);
                proved(d, 7, aux);
            }
        }
    }

    /** rx is x of R as it is, not modulo n. */
    private static void proveAtTheEdgesOfX() {
        for (int[] edge : Edges.X) {
            for (int k : new int[] {edge[1], N - edge[1]}) {
                for (int d : new int[] {5, N - 5}) {
                    long proof = proved(d, messageForK(d, 3, k), 3);
                    DUE.number("rx", edge[0], () -> Model.high(proof));
                }
            }
        }
    }

    private static void proveRefuses() {
        EvenCurveKeys keys = withSecrets(5, 6);
        keys.open(2, keys.code(0));
        DUE.noSecret("prove without a secret", () -> keys.prove(2, 7, 1));
        DUE.noSecret("prove of an empty slot", () -> keys.prove(3, 7, 1));
        for (int slot : Edges.NO_SLOTS) {
            DUE.noSlot("prove of slot " + slot, () -> keys.prove(slot, 7, 1));
        }
    }

    private static void holds() {
        EvenCurveKeys keys = withSecrets(5, 6);
        keys.secret(2, N - 5);
        keys.open(3, keys.code(0));
        int rx = 400995050;
        int s = 801393256;
        DUE.truth("holds", true, () -> keys.holds(0, 7, rx, s));
        DUE.truth("holds for the twin point", true, () -> keys.holds(2, 7, rx, s));
        DUE.truth("holds without a secret", true, () -> keys.holds(3, 7, rx, s));
        DUE.truth("holds for another point", false, () -> keys.holds(1, 7, rx, s));
        DUE.truth("holds for another message", false, () -> keys.holds(0, 8, rx, s));
        DUE.truth("holds for rx + 1", false, () -> keys.holds(0, 7, rx + 1, s));
        DUE.truth("holds for s + 1", false, () -> keys.holds(0, 7, rx, s + 1));
        DUE.truth("holds for -s", false, () -> keys.holds(0, 7, rx, N - s));
        for (int wrong : new int[] {P, P + 1, 1 - P, -1}) {
            int fitting = proofFor(5, 7, wrong, 1);
            DUE.truth("holds of rx = " + wrong, false, () -> keys.holds(0, 7, wrong, fitting));
        }
        for (int wrong : new int[] {-1, N, P, Integer.MIN_VALUE, Integer.MAX_VALUE}) {
            DUE.truth("holds of s = " + wrong, false, () -> keys.holds(0, 7, rx, wrong));
            DUE.truth("holds of rx = " + wrong, false, () -> keys.holds(0, 7, wrong, s));
        }
    }

    private static void holdsForAnyNonce() {
        for (int d : SECRETS) {
            EvenCurveKeys keys = withSecrets(d, 1);
            for (int k : new int[] {1, 2, 3, 4, 5, 6, N - 1, N - 2}) {
                Model.Point nonce = Model.multipleOfG(k);
                int rx = nonce.x().intValue();
                int s = proofFor(d, 11, rx, k);
                DUE.truth("holds of k = " + k, !nonce.isOdd(), () -> keys.holds(0, 11, rx, s));
            }
            // INFINITY has no x, and is not even: a proof of 0 * G holds with no rx.
            int none = proofFor(d, 11, 0, 0);
            DUE.truth("holds of INFINITY", false, () -> keys.holds(0, 11, 0, none));
        }
    }

    /** A message whose e is this one before it is taken modulo n, for R = G. */
    private static long messageForE(int d, long e) {
        long px = Model.multipleOfG(d).x().longValue();
        return Unmix.second(e << 33, Model.h(4294967296L + px, 29));
    }

    /** A message for which s proves it with R = G. */
    private static long messageForS(int d, int s) {
        BigInteger over = Model.number(evenSecret(d)).modInverse(Model.N);
        return messageForE(d, scalar(Model.number(s - 1).multiply(over)));
    }

    private static void holdsAndIsRight(int d, long message, int s, boolean due) {
        EvenCurveKeys keys = withSecrets(d, 9);
        DUE.truth("holds of s = " + s, due, () -> keys.holds(0, message, 1, s));
        put(keys, 1, 3, 4);
        keys.bundle(0, message, 1, s);
        DUE.truth("right of s = " + s, due, () -> keys.right(8));
    }

    private static void holdsAtTheEdges() {
        for (int d : SECRETS) {
            for (int s : new int[] {0, 1, 2, 5, 12000, N - 1}) {
                long message = messageForS(d, s);
                holdsAndIsRight(d, message, s, true);
                // Modulo n, or in the bits that a scalar has, these are the same.
                for (int wrong : new int[] {s + N, s - N, s + (1 << 30), s | 1 << 31}) {
                    holdsAndIsRight(d, message, wrong, false);
                }
            }
            for (long none : new long[] {0, N, 2L * N}) {
                long message = messageForE(d, none);
                holdsAndIsRight(d, message, 1, true);
                holdsAndIsRight(d, message, 2, false);
                holdsAndIsRight(d, message, N - 1, false);
            }
        }
    }

    /** The x of R, and numbers that are the same modulo p or n, or x of no point. */
    private static void holdsAtTheEdgesOfRx() {
        for (int d : new int[] {5, N - 5}) {
            for (int[] edge : Edges.X) {
                int rx = edge[0];
                int s = proofFor(d, 7, rx, edge[1]);
                EvenCurveKeys keys = withSecrets(d, 6);
                DUE.truth("holds of rx = " + rx, true, () -> keys.holds(0, 7, rx, s));
                keys.bundle(0, 7, rx, s);
                DUE.truth("right of rx = " + rx, true, () -> keys.right(1));
                // With e made for the wrong rx, too, only its range tells that it is wrong.
                for (int wrong : new int[] {rx + P, rx - P, rx + N, rx - N, rx - 1, rx + 1}) {
                    int fitting = proofFor(d, 7, wrong, edge[1]);
                    DUE.truth("holds of rx = " + wrong, false,
                            () -> keys.holds(0, 7, wrong, fitting));
                    keys.bundle(0, 7, wrong, fitting);
                    DUE.truth("right of rx = " + wrong, false, () -> keys.right(1));
                }
            }
        }
    }

    private static void holdsRefuses() {
        EvenCurveKeys keys = withSecrets(5, 6);
        DUE.empty("holds of an empty slot", () -> keys.holds(2, 7, 1, 1) ? 1 : 0);
        DUE.empty("holds of an empty slot", () -> keys.holds(2, 7, -1, -1) ? 1 : 0);
        for (int slot : Edges.NO_SLOTS) {
            DUE.noSlot("holds of slot " + slot, () -> keys.holds(slot, 7, -1, 1) ? 1 : 0);
        }
    }

    private static void bundleCounts() {
        EvenCurveKeys keys = withSecrets(5, 6);
        for (int round = 0; round < 3; round++) {
            for (int count = 1; count <= 8; count++) {
                int rx = round == 0 ? Integer.MIN_VALUE : Integer.MAX_VALUE;
                DUE.number("bundle", count, () -> keys.bundle(0, 7, rx, -rx));
            }
            DUE.notDone("bundle of a ninth", () -> keys.bundle(0, 7, 1, 1));
            DUE.notDone("bundle of a tenth", () -> keys.bundle(0, 7, 1, 1));
            DUE.truth("right", false, () -> keys.right(1));
        }
        DUE.truth("right after right", true, () -> keys.right(1));
    }

    /** The ninth, right or wrong, is not there: the eight are as right as they were. */
    private static void bundleOfNineKeepsEight() {
        for (int broken = -1; broken < 8; broken++) {
            EvenCurveKeys keys = withSecrets(5, 6);
            long ninth = keys.prove(1, 9, 1);
            for (int i = 0; i < 8; i++) {
                long proof = keys.prove(0, i, 1);
                int s = Model.low(proof);
                keys.bundle(0, i, Model.high(proof), i == broken ? N - 1 - s : s);
            }
            DUE.notDone("bundle of a ninth", () -> keys.bundle(0, 9, 1, -1));
            DUE.notDone("bundle of a ninth",
                    () -> keys.bundle(1, 9, Model.high(ninth), Model.low(ninth)));
            boolean due = broken == -1;
            DUE.truth("right of eight", due, () -> keys.right(6));
            DUE.number("bundle after right", 1,
                    () -> keys.bundle(1, 9, Model.high(ninth), Model.low(ninth)));
            DUE.truth("right of the ninth", true, () -> keys.right(6));
        }
    }

    private static void bundleTakesAnyNumbers() {
        int[] any = {
            Integer.MIN_VALUE, -1, 0, 1, N - 1, N, P - 1, P, Integer.MAX_VALUE
        };
        for (int rx : any) {
            for (int s : any) {
                EvenCurveKeys keys = withSecrets(5, 6);
                DUE.number("bundle of " + rx + " and " + s, 1, () -> keys.bundle(0, 7, rx, s));
                DUE.truth("right of " + rx + " and " + s, false, () -> keys.right(1));
                DUE.number("bundle after it", 1, () -> keys.bundle(0, 7, rx, s));
            }
        }
    }

    private static void bundleRefuses() {
        EvenCurveKeys keys = withSecrets(5, 6);
        for (int round = 0; round < 2; round++) {
            DUE.empty("bundle of an empty slot", () -> keys.bundle(2, 7, 1, 1));
            for (int slot : Edges.NO_SLOTS) {
                DUE.noSlot("bundle of slot " + slot, () -> keys.bundle(slot, 7, 1, 1));
            }
            // In the second round the bundle is full, which is looked at last.
            for (int i = 0; i < 8 && round == 0; i++) {
                DUE.number("bundle after throws", i + 1, () -> keys.bundle(0, 7, 1, 1));
            }
        }
    }

    private static void put(EvenCurveKeys keys, int slot, long message, long aux) {
        long proof = keys.prove(slot, message, aux);
        keys.bundle(slot, message, Model.high(proof), Model.low(proof));
    }

    private static void bundleKeepsThePoint() {
        EvenCurveKeys keys = withSecrets(5, 6);
        put(keys, 0, 7, 1);
        keys.secret(0, 123);
        put(keys, 0, 8, 2);
        keys.tweak(0, 3, true);
        put(keys, 0, 9, 3);
        keys.combine(0, 0, 1);
        DUE.truth("right after the slots changed", true, () -> keys.right(4));
        long proof = keys.prove(1, 7, 1);
        keys.secret(1, 77);
        keys.bundle(1, 7, Model.high(proof), Model.low(proof));
        DUE.truth("right of a changed slot", false, () -> keys.right(4));
    }

    private static void rightWithoutItems() {
        EvenCurveKeys keys = new EvenCurveKeys();
        for (long seed : new long[] {0, 1, -1, Long.MIN_VALUE, Long.MAX_VALUE}) {
            DUE.truth("right of nothing", true, () -> keys.right(seed));
        }
        keys.secret(0, 5);
        for (long seed : new long[] {0, -1}) {
            keys.bundle(0, 7, 1, 1);
            DUE.truth("right of a wrong item", false, () -> keys.right(seed));
            DUE.truth("right of nothing then", true, () -> keys.right(seed));
        }
    }

    private static void right() {
        for (int count = 0; count <= 8; count++) {
            for (int broken = -1; broken < count; broken++) {
                EvenCurveKeys keys = new EvenCurveKeys();
                for (int i = 0; i < count; i++) {
                    keys.secret(i % 6, SECRETS[i]);
                    long proof = keys.prove(i % 6, i, 5);
                    int s = (Model.low(proof) + (i == broken ? 1 : 0)) % N;
                    keys.bundle(i % 6, i, Model.high(proof), s);
                }
                String call = "right of " + count + " with " + broken + " broken";
                boolean due = broken == -1;
                DUE.truth(call, due, () -> keys.right(99));
                DUE.truth("right after right", true, () -> keys.right(99));
            }
        }
    }

    private static void rightWithWrongItems() {
        EvenCurveKeys keys = withSecrets(5, N - 6);
        long proof = keys.prove(1, 7, 1);
        int rx = Model.high(proof);
        int s = Model.low(proof);
        // 0 is x of no point. The last four would do modulo p or n: R is G there, with the x 1.
        int[][] wrong = {
            {1, rx, -1}, {1, rx, N}, {1, rx, Integer.MAX_VALUE}, {1, rx, Integer.MIN_VALUE},
            {1, 0, s}, {1, -1, s}, {1, P, s}, {1, Integer.MIN_VALUE, s}, {1, Integer.MAX_VALUE, s},
            {0, 1, proofFor(5, 7, 1, 1) + N}, {0, 1, proofFor(5, 7, 1, 1) - N},
            {0, P + 1, proofFor(5, 7, P + 1, 1)}, {0, 1 - P, proofFor(5, 7, 1 - P, 1)}
        };
        for (int[] item : wrong) {
            for (int place = 0; place < 3; place++) {
                for (int i = 0; i < 3; i++) {
                    if (i == place) {
                        keys.bundle(item[0], 7, item[1], item[2]);
                    } else {
                        keys.bundle(1, 7, rx, s);
                    }
                }
                DUE.truth("right of a wrong item", false, () -> keys.right(5));
                DUE.truth("right after it", true, () -> keys.right(5));
            }
        }
        keys.bundle(0, 7, 1, proofFor(5, 7, 1, 1));
        DUE.truth("right of R = G", true, () -> keys.right(5));
    }

    /** Both sums are INFINITY, or one of them alone. */
    private static void rightOfInfinity() {
        for (int d : SECRETS) {
            EvenCurveKeys keys = withSecrets(d, 6);
            // e * d = -1 for this one, so that G + e * Q is INFINITY, as is 0 * G.
            long message = messageForS(d, 0);
            keys.bundle(0, message, 1, 0);
            DUE.truth("right of INFINITY", true, () -> keys.right(1));
            for (int s : new int[] {1, N - 1}) {
                keys.bundle(0, message, 1, s);
                DUE.truth("right of INFINITY on one side", false, () -> keys.right(1));
            }
            keys.bundle(0, messageForS(d, 5), 1, 0);
            DUE.truth("right of INFINITY on the other side", false, () -> keys.right(1));
        }
    }

    /** Items that are all wrong, but by just so much that with one seed they make up for it. */
    private static void forged(long seed, int places, boolean due, long tried) {
        EvenCurveKeys keys = withSecrets(5, N - 6);
        BigInteger amount = BigInteger.ZERO;
        for (int i = 0; i < places; i++) {
            BigInteger by = Model.number(1000 + i);
            long proof = keys.prove(i % 2, i, 1);
            if (i == places - 1) {
                BigInteger over = Model.weight(seed, i).modInverse(Model.N);
                by = amount.negate().multiply(over).mod(Model.N);
            }
            amount = amount.add(Model.weight(seed, i).multiply(by));
            int s = scalar(Model.number(Model.low(proof)).add(by));
            int rx = Model.high(proof);
            int place = i;
            DUE.truth("holds alone", false, () -> keys.holds(place % 2, place, rx, s));
            keys.bundle(place % 2, place, rx, s);
        }
        DUE.truth("right of a forged bundle of " + places, due, () -> keys.right(tried));
    }

    private static void rightWeighsItsItems() {
        for (int places = 2; places <= 8; places++) {
            for (long seed : new long[] {0, 1, -1, Long.MIN_VALUE, 987654321987654321L}) {
                forged(seed, places, true, seed);
                forged(seed, places, false, seed + 1);
            }
        }
        // Seeds for which H >>> 34 is n - 2, n - 1 and n: the weights n - 1, 1 and 2.
        for (int i = 0; i < 3; i++) {
            long seed = Unmix.first((N - 2L + i) << 34, 1);
            long due = i == 0 ? N - 1 : i;
            DUE.number("weight", due, () -> Model.weight(seed, 1).longValue());
            forged(seed, 2, true, seed);
        }
    }

    private static void agree() {
        EvenCurveKeys keys = withSecrets(5, 6);
        DUE.number("agree(0, 1)", 5275914785039091363L, () -> keys.agree(0, 1));
        for (int d : SECRETS) {
            for (int e : SECRETS) {
                EvenCurveKeys two = withSecrets(d, e);
                Model.Point shared = Model.multipleOfG((long) d * e);
                long due = Model.h(shared.x().longValue(), shared.y().longValue());
                DUE.number("agree", due, () -> two.agree(0, 1));
                DUE.number("agree back", due, () -> two.agree(1, 0));
                two.open(1, two.code(1));
                DUE.number("agree with an open key", due, () -> two.agree(0, 1));
            }
        }
        Model.Point own = Model.multipleOfG(25);
        long due = Model.h(own.x().longValue(), own.y().longValue());
        DUE.number("agree with itself", due, () -> keys.agree(0, 0));
    }

    /** y goes into H as it is: points of the same x agree on another secret. */
    private static void agreeWithOddPoints() {
        for (int[] edge : Edges.X) {
            for (int e : new int[] {edge[1], N - edge[1]}) {
                EvenCurveKeys keys = withSecrets(1, N - 1);
                keys.secret(2, e);
                long y = Model.multipleOfG(e).y().longValue();
                long due = Model.h(edge[0], y);
                long twin = Model.h(edge[0], P - y);
                DUE.number("agree with x = " + edge[0], due, () -> keys.agree(0, 2));
                DUE.number("agree of its twin", twin, () -> keys.agree(1, 2));
                DUE.number("agree back", twin, () -> keys.agree(2, 1));
            }
        }
    }

    private static void agreeRefuses() {
        EvenCurveKeys keys = withSecrets(5, 6);
        keys.open(2, keys.code(0));
        DUE.noSecret("agree without a secret", () -> keys.agree(2, 0));
        DUE.noSecret("agree of an empty slot", () -> keys.agree(3, 0));
        DUE.noSecret("agree of two empty slots", () -> keys.agree(3, 4));
        DUE.empty("agree with an empty slot", () -> keys.agree(0, 3));
        for (int slot : Edges.NO_SLOTS) {
            DUE.noSlot("agree of slot " + slot, () -> keys.agree(slot, 3));
            DUE.noSlot("agree with slot " + slot, () -> keys.agree(0, slot));
            DUE.noSlot("agree with slot " + slot, () -> keys.agree(3, slot));
        }
    }
}
