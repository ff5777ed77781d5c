import java.util.ArrayList;
import java.util.List;
import java.util.function.ToLongFunction;

/** Slots 0 .. 5, each of them with each call: first and last do, and none touches another. */
public final class SlotsTest {
    private static final int R = 873853901;
    private static final int S = 128235739;

    private static final Due DUE = new Due("SlotsTest");

    public static void main(String[] args) {
        for (int slot = 0; slot < 6; slot++) {
            fillingTouchesItsSlotAlone(slot);
            askingAnyOtherSlot(slot);
            emptyBesideFullOnes(slot);
        }
        objectsAreApart();
        DUE.end();
    }

    private static long codeOfG(long k) {
        return Model.codeOf(Model.multipleOfG(k));
    }

    /** Slots with the secrets 11 .. 16. */
    private static EvenCurveKeys filled() {
        EvenCurveKeys keys = new EvenCurveKeys();
        for (int slot = 0; slot < 6; slot++) {
            keys.secret(slot, 11 + slot);
        }
        return keys;
    }

    private static long opened(EvenCurveKeys keys, int slot, long code) {
        keys.open(slot, code);
        return code;
    }

    /** The slots as they are seen after a call, the one that it fills left out. */
    private static List<String> others(EvenCurveKeys keys, int slot) {
        List<String> seen = new ArrayList<>();
        for (int other = 0; other < 6; other++) {
            if (other != slot) {
                seen.addAll(State.ofSlot(keys, other));
            }
        }
        return seen;
    }

    private static void fills(int slot, String call, long k, ToLongFunction<EvenCurveKeys> made) {
        EvenCurveKeys keys = filled();
        String text = call + " in slot " + slot;
        DUE.number(text, codeOfG(k), () -> made.applyAsLong(keys));
        DUE.number("code after " + text, codeOfG(k), () -> keys.code(slot));
        DUE.same("others after " + text, others(keys, slot).toString(),
                others(filled(), slot).toString());
    }

    private static void fillingTouchesItsSlotAlone(int slot) {
        int other = (slot + 1) % 6;
        int d = 11 + slot;
        int e = 11 + other;
        fills(slot, "secret", 77, keys -> keys.secret(slot, 77));
        fills(slot, "open", 78, keys -> opened(keys, slot, codeOfG(78)));
        fills(slot, "tweak by +", d + 9, keys -> keys.tweak(slot, 9, false));
        fills(slot, "tweak by *", d * 9, keys -> keys.tweak(slot, 9, true));
        fills(slot, "combine of its own", d + e, keys -> keys.combine(slot, slot, other));
        fills(slot, "combine of its own", d + e, keys -> keys.combine(slot, other, slot));
        fills(slot, "combine of itself", 2 * d, keys -> keys.combine(slot, slot, slot));
        fills(slot, "combine of another", 2 * e, keys -> keys.combine(slot, other, other));
        fills(slot, "recover", 5, keys -> keys.recover(slot, 7, R, S, 0));
    }

    private static void askingAnyOtherSlot(int slot) {
        EvenCurveKeys keys = filled();
        int d = 11 + slot;
        Model model = new Model();
        model.secret(0, d);
        DUE.number("code", codeOfG(d), () -> keys.code(slot));
        DUE.number("linear", codeOfG(3 + 2 * d), () -> keys.linear(slot, 3, 2));
        long signature = model.sign(0, 7);
        DUE.number("sign", signature, () -> keys.sign(slot, 7));
        long proof = model.prove(0, 7, 1);
        DUE.number("prove", proof, () -> keys.prove(slot, 7, 1));
        for (int asked = 0; asked < 6; asked++) {
            int other = asked;
            boolean own = other == slot;
            DUE.truth("good in slot " + other, own,
                    () -> keys.good(other, 7, Model.high(signature), Model.low(signature)));
            DUE.truth("holds in slot " + other, own,
                    () -> keys.holds(other, 7, Model.high(proof), Model.low(proof)));
            DUE.number("bundle in slot " + other, 1,
                    () -> keys.bundle(other, 7, Model.high(proof), Model.low(proof)));
            DUE.truth("right in slot " + other, own, () -> keys.right(1));
            Model.Point shared = Model.multipleOfG((long) d * (11 + other));
            DUE.number("agree with slot " + other,
                    Model.h(shared.x().longValue(), shared.y().longValue()),
                    () -> keys.agree(slot, other));
        }
    }

    /** One empty slot among full ones is empty, for every call that asks. */
    private static void emptyBesideFullOnes(int slot) {
        EvenCurveKeys keys = new EvenCurveKeys();
        int full = (slot + 1) % 6;
        for (int other = 0; other < 6; other++) {
            if (other != slot) {
                keys.secret(other, 11 + other);
            }
        }
        DUE.number("code of an empty slot", 0, () -> keys.code(slot));
        DUE.empty("tweak of an empty slot", () -> keys.tweak(slot, 1, false));
        DUE.empty("combine with an empty slot", () -> keys.combine(full, full, slot));
        DUE.empty("combine with an empty slot", () -> keys.combine(full, slot, full));
        DUE.empty("linear of an empty slot", () -> keys.linear(slot, 0, 0));
        DUE.noSecret("sign of an empty slot", () -> keys.sign(slot, 7));
        DUE.empty("good of an empty slot", () -> keys.good(slot, 7, 1, 1) ? 1 : 0);
        DUE.noSecret("prove of an empty slot", () -> keys.prove(slot, 7, 1));
        DUE.empty("holds of an empty slot", () -> keys.holds(slot, 7, 1, 1) ? 1 : 0);
        DUE.empty("bundle of an empty slot", () -> keys.bundle(slot, 7, 1, 1));
        DUE.noSecret("agree of an empty slot", () -> keys.agree(slot, full));
        DUE.empty("agree with an empty slot", () -> keys.agree(full, slot));
    }

    /** What one object is used for is not seen in another, be it older or newer. */
    private static void objectsAreApart() {
        String fresh = State.of(new EvenCurveKeys(), 0).toString();
        EvenCurveKeys older = new EvenCurveKeys();
        EvenCurveKeys used = filled();
        used.secret(5, 585553178);
        used.sign(5, 155926);
        used.bundle(0, 7, 1, 1);
        used.type(48);
        DUE.same("an older object", State.of(older, 0).toString(), fresh);
        EvenCurveKeys newer = new EvenCurveKeys();
        DUE.number("mark of the used object", 3, used::mark);
        DUE.number("bundle of the used object", 2, () -> used.bundle(0, 7, 1, 1));
        DUE.number("type of the used object", 2, () -> used.type(6));
        DUE.same("a newer object", State.of(newer, 0).toString(), fresh);
    }
}
