/** Promises 1 to 8: the slots, and what is made of keys. */
public final class KeysTest {
    private static final int P = Edges.P;
    private static final int N = Edges.N;
    private static final long TWO_TO_32 = 4294967296L;
    private static final int[] SECRETS = {1, 2, 3, 5, N / 2, N / 2 + 1, 123456789, N - 2, N - 1};

    private static final Due DUE = new Due("KeysTest");

    public static void main(String[] args) {
        newObject();
        secret();
        secretAtItsEdges();
        open();
        openAtTheEdges();
        openOfNoCode();
        code();
        codeFollowsTheSlot();
        even();
        evenAtTheEdges();
        tweak();
        tweakTakesTheSecretAlong();
        tweakBesideInfinity();
        tweakRefuses();
        combine();
        combineBesideInfinity();
        combineOfNeighbours();
        combineRefuses();
        linear();
        linearBesideInfinity();
        linearRefuses();
        DUE.end();
    }

    private static long codeOfG(long k) {
        return Model.codeOf(Model.multipleOfG(k));
    }

    private static EvenCurveKeys withSecrets(int first, int second) {
        EvenCurveKeys keys = new EvenCurveKeys();
        keys.secret(0, first);
        keys.secret(1, second);
        return keys;
    }

    /** That a slot has the secret d and its point, as a signature and a proof show. */
    private static void hasSecret(String after, EvenCurveKeys keys, int slot, int d) {
        EvenCurveKeys other = new EvenCurveKeys();
        other.secret(0, d);
        DUE.number("code after " + after, codeOfG(d), () -> keys.code(slot));
        DUE.same("slot after " + after, State.ofSlot(keys, slot).toString(),
                State.ofSlot(other, 0).toString());
    }

    private static void hasNoSecret(String after, EvenCurveKeys keys, int slot, long code) {
        DUE.number("code after " + after, code, () -> keys.code(slot));
        DUE.noSecret("sign after " + after, () -> keys.sign(slot, 7));
    }

    private static void newObject() {
        EvenCurveKeys keys = new EvenCurveKeys();
        for (int slot = 0; slot < 6; slot++) {
            int asked = slot;
            hasNoSecret("nothing", keys, slot, 0);
            DUE.empty("linear of an empty slot", () -> keys.linear(asked, 1, 1));
        }
        DUE.number("mark()", 0, keys::mark);
        DUE.truth("right(1)", true, () -> keys.right(1));
        DUE.number("read()", EvenCurveKeys.WRONG, keys::read);
        DUE.number("type(48)", 1, () -> keys.type(48));
        keys.secret(0, 1);
        DUE.number("bundle(0, 0, 0, 0)", 1, () -> keys.bundle(0, 0, 0, 0));
        DUE.number("WRONG", -1, () -> EvenCurveKeys.WRONG);
    }

    private static void secret() {
        EvenCurveKeys keys = new EvenCurveKeys();
        DUE.number("secret(0, 1)", 2 * TWO_TO_32 + 1, () -> keys.secret(0, 1));
        DUE.number("secret(0, n - 1)", 3 * TWO_TO_32 + 1, () -> keys.secret(0, N - 1));
        for (int d : SECRETS) {
            for (int slot = 0; slot < 6; slot++) {
                int asked = slot;
                DUE.number("secret of " + d, codeOfG(d), () -> keys.secret(asked, d));
            }
            hasSecret("secret", keys, 5, d);
        }
        keys.secret(3, 77);
        for (int d : Edges.NO_UNITS) {
            DUE.notFit("secret of " + d, () -> keys.secret(3, d));
        }
        hasSecret("a secret that throws", keys, 3, 77);
        for (int slot : Edges.NO_SLOTS) {
            DUE.noSlot("secret into " + slot, () -> keys.secret(slot, 1));
            DUE.noSlot("secret 0 into " + slot, () -> keys.secret(slot, 0));
        }
    }

    /** The last that are refused and the first that are taken, below and above. */
    private static void secretAtItsEdges() {
        EvenCurveKeys keys = new EvenCurveKeys();
        DUE.notFit("secret(0, 0)", () -> keys.secret(0, 0));
        DUE.number("code after it", 0, () -> keys.code(0));
        DUE.number("secret(0, 1)", codeOfG(1), () -> keys.secret(0, 1));
        hasSecret("secret(0, 1)", keys, 0, 1);
        DUE.notFit("secret(0, n)", () -> keys.secret(0, N));
        hasSecret("secret(0, n)", keys, 0, 1);
        DUE.number("secret(0, n - 1)", codeOfG(-1), () -> keys.secret(0, N - 1));
        hasSecret("secret(0, n - 1)", keys, 0, N - 1);
        DUE.notFit("secret(0, -1)", () -> keys.secret(0, -1));
        hasSecret("secret(0, -1)", keys, 0, N - 1);
    }

    private static long opened(EvenCurveKeys keys, int slot, long code) {
        keys.open(slot, code);
        return 0;
    }

    private static void open() {
        EvenCurveKeys keys = new EvenCurveKeys();
        for (int d : SECRETS) {
            long code = codeOfG(d);
            keys.secret(2, 9);
            DUE.number("open of " + code, 0, () -> opened(keys, 2, code));
            hasNoSecret("open", keys, 2, code);
            // The point itself must be right, not its code alone.
            DUE.number("linear after open", codeOfG(3L + 2L * d), () -> keys.linear(2, 3, 2));
        }
        for (int slot : Edges.NO_SLOTS) {
            DUE.noSlot("open into " + slot, () -> opened(keys, slot, codeOfG(1)));
            DUE.noSlot("open of 0 into " + slot, () -> opened(keys, slot, 0));
        }
    }

    /** A code of a point is taken, and those beside it that are none are not. */
    private static void openAtTheEdges() {
        EvenCurveKeys keys = new EvenCurveKeys();
        for (int[] edge : Edges.X) {
            for (int kind = 0; kind < 6; kind++) {
                long code = kind * TWO_TO_32 + edge[0];
                if (kind == 2 || kind == 3) {
                    int k = kind == 2 ? edge[1] : N - edge[1];
                    DUE.number("open of " + code, 0, () -> opened(keys, 0, code));
                    DUE.number("code after open", code, () -> keys.code(0));
                    DUE.number("linear after open", codeOfG(3 + 2L * k),
                            () -> keys.linear(0, 3, 2));
                } else {
                    DUE.notFit("open of " + code, () -> opened(keys, 0, code));
                }
            }
        }
        for (int x : Edges.NO_X) {
            for (long kind = 0; kind < 5; kind++) {
                long code = kind * TWO_TO_32 + x;
                DUE.notFit("open of " + code, () -> opened(keys, 0, code));
            }
        }
    }

    private static void openOfNoCode() {
        EvenCurveKeys keys = new EvenCurveKeys();
        keys.secret(2, 9);
        // x = 1 is x of two points, x = 0 of none; p + 1 is 1 modulo p.
        long[] wrong = {
            0, 1, TWO_TO_32 + 1, 4 * TWO_TO_32 + 1, 5 * TWO_TO_32 + 1, -1,
            Long.MIN_VALUE, Long.MAX_VALUE, Long.MIN_VALUE + 2 * TWO_TO_32 + 1,
            -2 * TWO_TO_32 + 1, -3 * TWO_TO_32 + 1, 2 * TWO_TO_32, 3 * TWO_TO_32,
            2 * TWO_TO_32 + P, 2 * TWO_TO_32 + P + 1, 3 * TWO_TO_32 + P + 1,
            2 * TWO_TO_32 + P - 1, 3 * TWO_TO_32 - 1, 2 * TWO_TO_32 + (1L << 31) + 1,
            (2 + (1L << 16)) * TWO_TO_32 + 1
        };
        for (long code : wrong) {
            DUE.notFit("open of " + code, () -> opened(keys, 2, code));
            DUE.notFit("open of " + code, () -> opened(keys, 3, code));
        }
        hasSecret("an open that throws", keys, 2, 9);
        DUE.number("code(3)", 0, () -> keys.code(3));
    }

    private static void code() {
        EvenCurveKeys keys = withSecrets(5, N - 5);
        DUE.number("code of 5 * G", codeOfG(5), () -> keys.code(0));
        DUE.number("code of -5 * G", codeOfG(5) + TWO_TO_32, () -> keys.code(1));
        DUE.number("code of an empty slot", 0, () -> keys.code(2));
        for (int slot : Edges.NO_SLOTS) {
            DUE.noSlot("code of " + slot, () -> keys.code(slot));
        }
    }

    private static void codeFollowsTheSlot() {
        EvenCurveKeys keys = new EvenCurveKeys();
        for (int slot = 0; slot < 6; slot += 5) {
            int asked = slot;
            DUE.number("code before", 0, () -> keys.code(asked));
            keys.secret(slot, 5);
            DUE.number("code of a secret", codeOfG(5), () -> keys.code(asked));
            keys.open(slot, codeOfG(-7));
            DUE.number("code of an open key", codeOfG(-7), () -> keys.code(asked));
        }
        DUE.noSlot("code(-1)", () -> keys.code(-1));
        DUE.noSlot("code(6)", () -> keys.code(6));
    }

    private static void evenAt(int x) {
        EvenCurveKeys keys = new EvenCurveKeys();
        long due = Model.codeOf(Model.at(Model.number(x), false));
        DUE.number("even(" + x + ")", due, () -> keys.even(x));
    }

    private static void even() {
        for (int i = 0; i < 300; i++) {
            evenAt(i);
            evenAt(N - 150 + i);
            evenAt(P - 300 + i);
            evenAt(i * 3578931);
        }
        EvenCurveKeys keys = new EvenCurveKeys();
        int[] none = {-1, P, P + 1, P + 2, 1 - P, Integer.MIN_VALUE, Integer.MAX_VALUE};
        for (int x : none) {
            DUE.number("even(" + x + ")", 0, () -> keys.even(x));
        }
    }

    private static void evenAtTheEdges() {
        EvenCurveKeys keys = new EvenCurveKeys();
        for (int[] edge : Edges.X) {
            DUE.number("even(" + edge[0] + ")", codeOfG(edge[1]), () -> keys.even(edge[0]));
        }
        for (int x : Edges.NO_X) {
            DUE.number("even(" + x + ")", 0, () -> keys.even(x));
        }
        // These are 1 modulo p, and 1 in the bits that a field number has.
        for (int x : new int[] {P + 1, 1 - P, 1 | 1 << 30, 1 | 1 << 31}) {
            DUE.number("even(" + x + ")", 0, () -> keys.even(x));
        }
    }

    private static void tweak() {
        int[] ts = {1, 2, 9, N / 2, N - 2, N - 1};
        for (int d : new int[] {5, 123456789, N - 3}) {
            for (int t : ts) {
                EvenCurveKeys keys = withSecrets(d, d);
                keys.open(2, codeOfG(d));
                keys.open(3, codeOfG(d));
                String call = "tweak of " + d + " by " + t;
                DUE.number(call, codeOfG((long) d + t), () -> keys.tweak(0, t, false));
                DUE.number(call, codeOfG((long) d * t), () -> keys.tweak(1, t, true));
                DUE.number(call, codeOfG((long) d + t), () -> keys.tweak(2, t, false));
                DUE.number(call, codeOfG((long) d * t), () -> keys.tweak(3, t, true));
                hasNoSecret(call, keys, 2, codeOfG((long) d + t));
                hasNoSecret(call, keys, 3, codeOfG((long) d * t));
                DUE.number("linear after " + call, codeOfG(3 + 2 * ((long) d + t)),
                        () -> keys.linear(2, 3, 2));
            }
        }
        EvenCurveKeys keys = withSecrets(5, 6);
        DUE.number("tweak by + 0", codeOfG(5), () -> keys.tweak(0, 0, false));
        DUE.number("tweak by * 1", codeOfG(6), () -> keys.tweak(1, 1, true));
    }

    private static void tweakTakesTheSecretAlong() {
        EvenCurveKeys keys = withSecrets(N - 3, N - 3);
        keys.tweak(0, 5, false);
        hasSecret("a tweak over n", keys, 0, 2);
        keys.tweak(0, N - 1, false);
        hasSecret("a second tweak", keys, 0, 1);
        keys.tweak(1, N - 7, true);
        hasSecret("a tweak of products", keys, 1, 21);
        keys.tweak(1, 0, false);
        hasSecret("a tweak by nothing", keys, 1, 21);
    }

    /** P + t * G for the t that makes it INFINITY and those beside it, with and without secret. */
    private static void tweakBesideInfinity() {
        for (int d : new int[] {2, 5, 123456789, N - 2}) {
            for (int slot = 0; slot < 2; slot++) {
                for (int by = -1; by <= 1; by++) {
                    EvenCurveKeys keys = new EvenCurveKeys();
                    keys.secret(0, d);
                    keys.open(1, codeOfG(d));
                    int asked = slot;
                    int t = N - d + by;
                    String call = "tweak of " + d + " by " + t;
                    long due = codeOfG(by == 0 ? d : by);
                    if (by == 0) {
                        DUE.notFit(call, () -> keys.tweak(asked, t, false));
                    } else {
                        DUE.number(call, due, () -> keys.tweak(asked, t, false));
                    }
                    if (slot == 0) {
                        hasSecret(call, keys, 0, by == 0 ? d : Math.floorMod(by, N));
                    } else {
                        hasNoSecret(call, keys, 1, due);
                    }
                }
            }
        }
    }

    private static void tweakRefuses() {
        EvenCurveKeys keys = withSecrets(5, 6);
        DUE.notFit("tweak to INFINITY", () -> keys.tweak(0, N - 5, false));
        DUE.notFit("tweak by * 0", () -> keys.tweak(0, 0, true));
        for (int t : Edges.NO_SCALARS) {
            DUE.notFit("tweak by + " + t, () -> keys.tweak(0, t, false));
            DUE.notFit("tweak by * " + t, () -> keys.tweak(0, t, true));
            DUE.empty("tweak of an empty slot", () -> keys.tweak(2, t, true));
        }
        hasSecret("tweaks that throw", keys, 0, 5);
        for (int slot : Edges.NO_SLOTS) {
            DUE.noSlot("tweak of " + slot, () -> keys.tweak(slot, 1, false));
            DUE.noSlot("tweak of " + slot, () -> keys.tweak(slot, -1, true));
        }
    }

    private static void combine() {
        EvenCurveKeys keys = withSecrets(5, N - 7);
        DUE.number("combine of two", codeOfG(-2), () -> keys.combine(2, 0, 1));
        hasNoSecret("combine", keys, 2, codeOfG(-2));
        DUE.number("combine of one twice", codeOfG(10), () -> keys.combine(3, 0, 0));
        DUE.number("combine into its own", codeOfG(15), () -> keys.combine(3, 0, 3));
        DUE.number("combine over a secret", codeOfG(8), () -> keys.combine(0, 3, 1));
        hasNoSecret("combine over a secret", keys, 0, codeOfG(8));
        hasSecret("combine elsewhere", keys, 1, N - 7);
    }

    /** (x, y) and (x, -y) make INFINITY; the points beside the one, and the same twice, do not. */
    private static void combineBesideInfinity() {
        for (int d : new int[] {3, 5, 123456789, N / 2, N - 3}) {
            for (int by = -1; by <= 1; by++) {
                EvenCurveKeys keys = withSecrets(d, N - d + by);
                String call = "combine of " + d + " and " + (N - d + by);
                if (by == 0) {
                    DUE.notFit(call, () -> keys.combine(2, 0, 1));
                    DUE.notFit(call, () -> keys.combine(2, 1, 0));
                    hasNoSecret(call, keys, 2, 0);
                } else {
                    DUE.number(call, codeOfG(by), () -> keys.combine(2, 0, 1));
                    DUE.number(call, codeOfG(by), () -> keys.combine(2, 1, 0));
                }
                DUE.number("combine of the same", codeOfG(2L * d), () -> keys.combine(3, 0, 0));
            }
        }
    }

    /** Points whose x, and so the divisor of their sum, lie close together, below and above. */
    private static void combineOfNeighbours() {
        for (int xa = 0; xa < 12; xa++) {
            for (int xb = 0; xb < 12; xb++) {
                for (int odd = 0; odd < 4; odd++) {
                    Model.Point a = Model.at(Model.number(xa), odd % 2 == 1);
                    Model.Point b = Model.at(Model.number(xb), odd / 2 == 1);
                    Model.Point sum = Model.sum(a, b);
                    if (a != null && b != null && sum != null) {
                        EvenCurveKeys keys = new EvenCurveKeys();
                        keys.open(0, Model.codeOf(a));
                        keys.open(1, Model.codeOf(b));
                        DUE.number("combine of x = " + xa + " and " + xb, Model.codeOf(sum),
                                () -> keys.combine(2, 0, 1));
                    }
                }
            }
        }
    }

    private static void combineRefuses() {
        EvenCurveKeys keys = withSecrets(5, N - 5);
        DUE.notFit("combine to INFINITY", () -> keys.combine(0, 0, 1));
        DUE.empty("combine with an empty slot", () -> keys.combine(0, 1, 2));
        DUE.empty("combine with an empty slot", () -> keys.combine(0, 2, 1));
        DUE.empty("combine of empty slots", () -> keys.combine(0, 3, 3));
        hasSecret("combines that throw", keys, 0, 5);
        for (int slot : Edges.NO_SLOTS) {
            DUE.noSlot("combine into " + slot, () -> keys.combine(slot, 2, 3));
            DUE.noSlot("combine of " + slot, () -> keys.combine(0, slot, 2));
            DUE.noSlot("combine with " + slot, () -> keys.combine(0, 2, slot));
        }
    }

    private static void linear() {
        EvenCurveKeys keys = withSecrets(5, N - 1);
        int[] scalars = {0, 1, 2, 5, N / 2, N - 5, N - 1};
        for (int a : scalars) {
            for (int b : scalars) {
                String call = "linear of " + a + " and " + b;
                DUE.number(call, codeOfG(a + 5L * b), () -> keys.linear(0, a, b));
                DUE.number(call, codeOfG((long) a + N - b), () -> keys.linear(1, a, b));
            }
        }
        hasSecret("linear", keys, 0, 5);
    }

    /** a * G + b * P is INFINITY for one a to each b, b = 0 too, and for those beside it not. */
    private static void linearBesideInfinity() {
        for (int d : new int[] {1, 5, N - 1}) {
            EvenCurveKeys keys = withSecrets(d, 6);
            for (int b : new int[] {0, 1, 2, N / 2, N - 1}) {
                int none = (int) Math.floorMod(-(long) d * b, (long) N);
                String call = "linear of " + none + " and " + b + " with " + d;
                DUE.number(call, 0, () -> keys.linear(0, none, b));
                int above = (none + 1) % N;
                int below = (none + N - 1) % N;
                DUE.number("beside " + call, codeOfG(1), () -> keys.linear(0, above, b));
                DUE.number("beside " + call, codeOfG(-1), () -> keys.linear(0, below, b));
            }
        }
    }

    private static void linearRefuses() {
        EvenCurveKeys keys = withSecrets(5, 6);
        for (int wrong : Edges.NO_SCALARS) {
            DUE.notFit("linear of a = " + wrong, () -> keys.linear(0, wrong, 1));
            DUE.notFit("linear of b = " + wrong, () -> keys.linear(0, 1, wrong));
            DUE.empty("linear of an empty slot", () -> keys.linear(2, wrong, 1));
        }
        for (int slot : Edges.NO_SLOTS) {
            DUE.noSlot("linear of " + slot, () -> keys.linear(slot, 1, -1));
        }
    }
}
