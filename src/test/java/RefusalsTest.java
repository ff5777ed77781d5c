import java.math.BigInteger;
import java.util.List;
import java.util.NoSuchElementException;
import java.util.function.Supplier;
import java.util.function.ToLongFunction;

/**
 * A call that throws changes nothing, and of two exceptions that are due the first of the throws
 * clause comes: every call of the face, refused for every reason and pair of reasons, on an object
 * that is new, on one that is used, and on one that is full.
 */
public final class RefusalsTest {
    private static final int P = Edges.P;
    private static final int N = Edges.N;

    /** With the message 155926 its signature has the mark 3. */
    private static final int D = 585553178;
    private static final int SIGNED = 155926;

    /** Slots of the used object: two secrets whose points sum up to INFINITY .. */
    private static final int MINE = 0;
    private static final int TWIN = 1;
    /** .. two points without a secret that do so too .. */
    private static final int OPEN = 2;
    private static final int OPEN_TWIN = 3;
    /** .. and two that are empty. */
    private static final int EMPTY = 4;
    private static final int EMPTY_TOO = 5;

    private static final long CODE = 2 * 4294967296L + 1;

    private static final Due DUE = new Due("RefusalsTest");

    /** What the calls are tried on, made anew for each of them, and how many bytes it has typed. */
    private record Stage(String name, Supplier<EvenCurveKeys> object, int typed) {
        List<String> seenAfter(ToLongFunction<EvenCurveKeys> call) {
            EvenCurveKeys keys = object.get();
            Due.outcome(() -> call.applyAsLong(keys));
            return State.of(keys, typed);
        }

        /** That the call answers so, and that all is then as if it had not been made. */
        void leaves(String call, String due, ToLongFunction<EvenCurveKeys> made) {
            EvenCurveKeys keys = object.get();
            String text = call + ", " + name;
            DUE.same(text, Due.outcome(() -> made.applyAsLong(keys)), due);
            String before = seenAfter(untouched -> 0).toString();
            DUE.same("all after " + text, seenAfter(made).toString(), before);
        }

        void noSlot(String call, ToLongFunction<EvenCurveKeys> made) {
            leaves(call, Due.thrown(IndexOutOfBoundsException.class), made);
        }

        void empty(String call, ToLongFunction<EvenCurveKeys> made) {
            leaves(call, Due.thrown(NoSuchElementException.class), made);
        }

        void noSecret(String call, ToLongFunction<EvenCurveKeys> made) {
            leaves(call, Due.thrown(IllegalStateException.class), made);
        }

        void notFit(String call, ToLongFunction<EvenCurveKeys> made) {
            leaves(call, Due.thrown(IllegalArgumentException.class), made);
        }

        void notDone(String call, ToLongFunction<EvenCurveKeys> made) {
            leaves(call, Due.thrown(UnsupportedOperationException.class), made);
        }
    }

    public static void main(String[] args) {
        stagesShowAll();
        onNew(new Stage("new", EvenCurveKeys::new, 0));
        for (Stage stage : List.of(usedStage(), fullStage())) {
            noSuchSlots(stage);
            twoReasonsWithNoSuchSlot(stage);
            emptySlots(stage);
            slotsWithoutSecrets(stage);
            secretRefuses(stage);
            openRefuses(stage);
            tweakRefuses(stage);
            combineRefuses(stage);
            linearRefuses(stage);
            recoverRefuses(stage);
            proveRefuses(stage);
            writtenRefuses(stage);
            typeRefuses(stage);
        }
        onFull(fullStage());
        askingLeavesAll(usedStage());
        DUE.end();
    }

    // The stages

    private static Stage usedStage() {
        return new Stage("used", () -> used(3, State.FORM.subList(0, 3)), 3);
    }

    private static Stage fullStage() {
        List<Integer> twenty = List.of(
                48, 6, 2, 1, 5, 2, 1, 7, 0, 0, 0, 0, 0, 0, 0, 0, 0, 0, 0, 0);
        return new Stage("full", () -> used(8, twenty), 3);
    }

    private static EvenCurveKeys used(int items, List<Integer> bytes) {
        EvenCurveKeys keys = new EvenCurveKeys();
        keys.secret(MINE, D);
        keys.secret(TWIN, N - D);
        keys.open(OPEN, Model.codeOf(Model.multipleOfG(7)));
        keys.open(OPEN_TWIN, Model.codeOf(Model.multipleOfG(-7)));
        for (int i = 0; i < items; i++) {
            long proof = keys.prove(MINE, i, 1);
            keys.bundle(MINE, i, Model.high(proof), Model.low(proof));
        }
        bytes.forEach(keys::type);
        keys.sign(MINE, SIGNED);
        return keys;
    }

    /** What is seen of the stages is what was put there: else little could be seen to change. */
    private static void stagesShowAll() {
        List<String> used = usedStage().seenAfter(keys -> 0);
        DUE.same("the used mark", used.get(0), "mark 3");
        DUE.same("the used bundle", used.get(7), "bundle [4, 1, 1]");
        DUE.same("the used bytes", used.get(8), "typed [4, 5, 6, 7, 8, 21474836487]");
        List<String> full = fullStage().seenAfter(keys -> 0);
        String no = Due.thrown(UnsupportedOperationException.class);
        DUE.same("the full bundle", full.get(7), "bundle [" + no + ", 1, 1]");
        DUE.same("the full bytes", full.get(8),
                "typed " + List.of(no, no, no, no, no, Long.toString(EvenCurveKeys.WRONG)));
    }

    // What is asked of calls that answer nothing, or yes and no

    private static long opened(EvenCurveKeys keys, int slot, long code) {
        keys.open(slot, code);
        return 0;
    }

    private static long good(EvenCurveKeys keys, int slot, int r, int s) {
        return keys.good(slot, 7, r, s) ? 1 : 0;
    }

    private static long holds(EvenCurveKeys keys, int slot, int rx, int s) {
        return keys.holds(slot, 7, rx, s) ? 1 : 0;
    }

    // Slots

    private static void onNew(Stage stage) {
        for (int i = 0; i < 6; i++) {
            int slot = i;
            String of = " of slot " + slot;
            stage.empty("tweak" + of, keys -> keys.tweak(slot, 1, false));
            stage.empty("tweak" + of, keys -> keys.tweak(slot, N, true));
            stage.empty("combine" + of, keys -> keys.combine(0, slot, slot));
            stage.empty("linear" + of, keys -> keys.linear(slot, 1, 1));
            stage.empty("good" + of, keys -> good(keys, slot, 1, 1));
            stage.empty("holds" + of, keys -> holds(keys, slot, 1, 1));
            stage.empty("bundle" + of, keys -> keys.bundle(slot, 7, 1, 1));
            stage.noSecret("sign" + of, keys -> keys.sign(slot, 7));
            stage.noSecret("prove" + of, keys -> keys.prove(slot, 7, 1));
            stage.noSecret("agree" + of, keys -> keys.agree(slot, slot));
        }
        noSuchSlots(stage);
        twoReasonsWithNoSuchSlot(stage);
    }

    private static void noSuchSlots(Stage stage) {
        for (int slot : Edges.NO_SLOTS) {
            String of = " of slot " + slot;
            stage.noSlot("secret" + of, keys -> keys.secret(slot, 1));
            stage.noSlot("open" + of, keys -> opened(keys, slot, CODE));
            stage.noSlot("code" + of, keys -> keys.code(slot));
            stage.noSlot("tweak" + of, keys -> keys.tweak(slot, 1, false));
            stage.noSlot("combine" + of, keys -> keys.combine(slot, MINE, OPEN));
            stage.noSlot("combine a" + of, keys -> keys.combine(MINE, slot, OPEN));
            stage.noSlot("combine b" + of, keys -> keys.combine(MINE, OPEN, slot));
            stage.noSlot("linear" + of, keys -> keys.linear(slot, 1, 1));
            stage.noSlot("sign" + of, keys -> keys.sign(slot, 7));
            stage.noSlot("good" + of, keys -> good(keys, slot, 1, 1));
            stage.noSlot("recover" + of, keys -> keys.recover(slot, 7, 1, 1, 0));
            stage.noSlot("prove" + of, keys -> keys.prove(slot, 7, 1));
            stage.noSlot("holds" + of, keys -> holds(keys, slot, 1, 1));
            stage.noSlot("bundle" + of, keys -> keys.bundle(slot, 7, 1, 1));
            stage.noSlot("agree" + of, keys -> keys.agree(slot, MINE));
            stage.noSlot("agree with" + of, keys -> keys.agree(MINE, slot));
        }
    }

    /** That there is no such slot is looked at before all else. */
    private static void twoReasonsWithNoSuchSlot(Stage stage) {
        for (int slot : Edges.NO_SLOTS) {
            String of = " of slot " + slot + " and more";
            stage.noSlot("secret" + of, keys -> keys.secret(slot, 0));
            stage.noSlot("open" + of, keys -> opened(keys, slot, 0));
            stage.noSlot("tweak" + of, keys -> keys.tweak(slot, -1, true));
            stage.noSlot("combine to INFINITY" + of, keys -> keys.combine(slot, MINE, TWIN));
            stage.noSlot("combine with none" + of, keys -> keys.combine(slot, EMPTY, EMPTY));
            stage.noSlot("combine a" + of, keys -> keys.combine(EMPTY, slot, EMPTY));
            stage.noSlot("combine b" + of, keys -> keys.combine(EMPTY, EMPTY, slot));
            stage.noSlot("linear" + of, keys -> keys.linear(slot, N, -1));
            stage.noSlot("recover" + of, keys -> keys.recover(slot, 7, 0, N, 4));
            stage.noSlot("agree with none" + of, keys -> keys.agree(slot, EMPTY));
            stage.noSlot("agree of none" + of, keys -> keys.agree(EMPTY, slot));
            stage.noSlot("agree of no secret" + of, keys -> keys.agree(OPEN, slot));
            stage.noSlot("agree twice" + of, keys -> keys.agree(slot, slot));
        }
    }

    private static void emptySlots(Stage stage) {
        stage.empty("tweak of none", keys -> keys.tweak(EMPTY, 1, false));
        stage.empty("combine a of none", keys -> keys.combine(MINE, EMPTY, OPEN));
        stage.empty("combine b of none", keys -> keys.combine(MINE, OPEN, EMPTY));
        stage.empty("combine of none into it", keys -> keys.combine(EMPTY, EMPTY, MINE));
        stage.empty("combine of none twice", keys -> keys.combine(OPEN, EMPTY, EMPTY_TOO));
        stage.empty("linear of none", keys -> keys.linear(EMPTY, 1, 1));
        stage.empty("good of none", keys -> good(keys, EMPTY, 1, 1));
        stage.empty("good of none and no r", keys -> good(keys, EMPTY, 0, N));
        stage.empty("holds of none", keys -> holds(keys, EMPTY, 1, 1));
        stage.empty("holds of none and no rx", keys -> holds(keys, EMPTY, P, N));
        stage.empty("bundle of none", keys -> keys.bundle(EMPTY, 7, 1, 1));
        stage.empty("agree with none", keys -> keys.agree(MINE, EMPTY));
        for (int wrong : Edges.NO_SCALARS) {
            stage.empty("tweak of none by " + wrong, keys -> keys.tweak(EMPTY, wrong, true));
            stage.empty("linear of none, " + wrong, keys -> keys.linear(EMPTY, wrong, wrong));
        }
    }

    private static void slotsWithoutSecrets(Stage stage) {
        for (int slot : new int[] {OPEN, OPEN_TWIN, EMPTY, EMPTY_TOO}) {
            String of = " of slot " + slot;
            stage.noSecret("sign" + of, keys -> keys.sign(slot, 7));
            stage.noSecret("prove" + of, keys -> keys.prove(slot, 7, 1));
            stage.noSecret("agree" + of, keys -> keys.agree(slot, MINE));
            // That there is no secret is looked at before the other slot's being empty.
            stage.noSecret("agree with none" + of, keys -> keys.agree(slot, EMPTY));
        }
    }

    // Arguments

    private static void secretRefuses(Stage stage) {
        for (int slot : new int[] {MINE, OPEN, EMPTY}) {
            for (int d : Edges.NO_UNITS) {
                stage.notFit("secret of " + d, keys -> keys.secret(slot, d));
            }
        }
    }

    private static void openRefuses(Stage stage) {
        long p = P;
        long[] wrong = {
            0, 1, CODE - 1, CODE - 4294967296L, CODE + 2 * 4294967296L, CODE + p, -CODE
        };
        for (int slot : new int[] {MINE, OPEN, EMPTY}) {
            for (long code : wrong) {
                stage.notFit("open of " + code, keys -> opened(keys, slot, code));
            }
        }
    }

    private static void tweakRefuses(Stage stage) {
        for (int slot : new int[] {MINE, OPEN}) {
            for (int t : Edges.NO_SCALARS) {
                stage.notFit("tweak by + " + t, keys -> keys.tweak(slot, t, false));
                stage.notFit("tweak by * " + t, keys -> keys.tweak(slot, t, true));
            }
            stage.notFit("tweak by * 0", keys -> keys.tweak(slot, 0, true));
        }
        stage.notFit("tweak to INFINITY", keys -> keys.tweak(MINE, N - D, false));
        stage.notFit("tweak to INFINITY", keys -> keys.tweak(TWIN, D, false));
        stage.notFit("tweak to INFINITY", keys -> keys.tweak(OPEN, N - 7, false));
        stage.notFit("tweak to INFINITY", keys -> keys.tweak(OPEN_TWIN, 7, false));
    }

    private static void combineRefuses(Stage stage) {
        for (int slot = 0; slot < 6; slot++) {
            int into = slot;
            String call = "combine to INFINITY in slot " + slot;
            stage.notFit(call, keys -> keys.combine(into, MINE, TWIN));
            stage.notFit(call, keys -> keys.combine(into, OPEN_TWIN, OPEN));
        }
    }

    private static void linearRefuses(Stage stage) {
        for (int slot : new int[] {MINE, OPEN}) {
            for (int wrong : Edges.NO_SCALARS) {
                stage.notFit("linear of a = " + wrong, keys -> keys.linear(slot, wrong, 1));
                stage.notFit("linear of b = " + wrong, keys -> keys.linear(slot, 1, wrong));
            }
        }
    }

    private static void recoverRefuses(Stage stage) {
        // With s = z the point is z * G - z * G for R = G.
        int z = Model.number(Model.digest(7)).mod(Model.N).intValue();
        for (int slot : new int[] {MINE, OPEN, EMPTY}) {
            // 1 + n is x of a point, too: with r = 1 all four marks have an R.
            for (int mark : new int[] {-1, 4, Integer.MIN_VALUE, Integer.MAX_VALUE}) {
                stage.notFit("recover of mark " + mark,
                        keys -> keys.recover(slot, 7, 1, 1, mark));
            }
            for (int wrong : Edges.NO_UNITS) {
                stage.notFit("recover of r = " + wrong,
                        keys -> keys.recover(slot, 7, wrong, 1, 0));
                stage.notFit("recover of s = " + wrong,
                        keys -> keys.recover(slot, 7, 1, wrong, 0));
            }
            // 3 is x of no point, nor is 2 + n; 5948 + n is 2 modulo p, but no field number.
            stage.notFit("recover without R", keys -> keys.recover(slot, 7, 3, 1, 0));
            stage.notFit("recover without R", keys -> keys.recover(slot, 7, 2, 1, 2));
            stage.notFit("recover without R", keys -> keys.recover(slot, 7, 5948, 1, 2));
            stage.notFit("recover of INFINITY", keys -> keys.recover(slot, 7, 1, z, 0));
        }
    }

    private static void proveRefuses(Stage stage) {
        BigInteger x = Model.multipleOfG(D).x();
        long d = Model.multipleOfG(D).isOdd() ? N - D : D;
        long inner = Model.h(d ^ (Model.h(3, 23) >>> 34), x.longValue());
        for (long k : new long[] {0, N, 2L * N}) {
            long message = Unmix.second(k << 33, inner);
            stage.notDone("prove with k = 0", keys -> keys.prove(MINE, message, 3));
            // The twin has the same even secret, and the same x.
            stage.notDone("prove with k = 0", keys -> keys.prove(TWIN, message, 3));
        }
    }

    private static void writtenRefuses(Stage stage) {
        for (int wrong : new int[] {-1, Integer.MIN_VALUE}) {
            stage.notFit("written of r = " + wrong, keys -> keys.written(wrong, 1, 0));
            stage.notFit("written of s = " + wrong, keys -> keys.written(1, wrong, -1));
        }
        for (int i : new int[] {-2, 8, Integer.MIN_VALUE, Integer.MAX_VALUE}) {
            stage.notFit("written's byte " + i, keys -> keys.written(1, 1, i));
        }
    }

    private static void typeRefuses(Stage stage) {
        for (int b : new int[] {-1, 256, Integer.MIN_VALUE, Integer.MAX_VALUE}) {
            stage.notFit("type of " + b, keys -> keys.type(b));
        }
    }

    private static void onFull(Stage stage) {
        for (int b : new int[] {0, 2, 255}) {
            stage.notDone("type of a 21st, " + b, keys -> keys.type(b));
        }
        stage.notDone("bundle of a ninth", keys -> keys.bundle(MINE, 7, 1, 1));
        stage.notDone("bundle of a ninth", keys -> keys.bundle(OPEN, 7, -1, N));
    }

    // Calls that answer, and change nothing either

    private static void askingLeavesAll(Stage stage) {
        Model model = new Model();
        model.secret(0, D);
        model.secret(1, 7);
        int r = Model.high(model.sign(0, SIGNED));
        int s = Model.low(model.sign(0, SIGNED));
        long proof = model.prove(0, 7, 1);
        stage.leaves("code", "0", keys -> keys.code(EMPTY));
        stage.leaves("even", Long.toString(CODE), keys -> keys.even(1));
        stage.leaves("even", "0", keys -> keys.even(-1));
        stage.leaves("linear", "0", keys -> keys.linear(MINE, N - D, 1));
        stage.leaves("mark", "3", EvenCurveKeys::mark);
        stage.leaves("good", "1", keys -> keys.good(MINE, SIGNED, r, s) ? 1 : 0);
        stage.leaves("good", "0", keys -> good(keys, MINE, r, s));
        stage.leaves("good", "0", keys -> good(keys, MINE, 0, N));
        stage.leaves("prove", Long.toString(proof), keys -> keys.prove(MINE, 7, 1));
        stage.leaves("holds", "1", keys -> holds(keys, MINE, Model.high(proof), Model.low(proof)));
        stage.leaves("holds", "0", keys -> holds(keys, MINE, P, N));
        stage.leaves("agree", Long.toString(model.agree(0, 1)), keys -> keys.agree(MINE, OPEN));
        stage.leaves("written", "8", keys -> keys.written(5, 7, -1));
        stage.leaves("written", "48", keys -> keys.written(r, s, 0));
    }
}
