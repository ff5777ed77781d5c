import java.util.ArrayList;
import java.util.List;

/** All that can be seen of an object, by calls that use it up. */
final class State {
    /** The bytes that are typed in the end; an object may have typed some bytes of it before. */
    static final List<Integer> FORM = Model.form(5, 7);

    private State() {}

    /** The mark, the slots with their secrets, the bundle, and the bytes, some typed before. */
    static List<String> of(EvenCurveKeys keys, int typed) {
        List<String> seen = new ArrayList<>();
        seen.add("mark " + Due.outcome(keys::mark));
        for (int i = 0; i < 6; i++) {
            seen.add("slot " + i + " " + ofSlot(keys, i));
        }
        seen.add("bundle " + ofBundle(keys));
        seen.add("typed " + ofTyped(keys, typed));
        return seen;
    }

    /** The code and, of a slot with a secret, what only the secret makes. */
    static List<String> ofSlot(EvenCurveKeys keys, int slot) {
        return List.of(
                Due.outcome(() -> keys.code(slot)),
                Due.outcome(() -> keys.linear(slot, 3, 2)),
                Due.outcome(() -> keys.sign(slot, 7)),
                Due.outcome(() -> keys.prove(slot, 7, 1)));
    }

    /** How many items there are, whether they are right, and how many there are then. */
    private static List<String> ofBundle(EvenCurveKeys keys) {
        keys.secret(0, 5);
        long proof = keys.prove(0, 7, 1);
        int rx = Model.high(proof);
        int s = Model.low(proof);
        return List.of(
                Due.outcome(() -> keys.bundle(0, 7, rx, s)),
                Due.outcome(() -> keys.right(9) ? 1 : 0),
                Due.outcome(() -> keys.bundle(0, 7, rx, s)));
    }

    private static List<String> ofTyped(EvenCurveKeys keys, int typed) {
        List<String> seen = new ArrayList<>();
        for (int b : FORM.subList(typed, FORM.size())) {
            seen.add(Due.outcome(() -> keys.type(b)));
        }
        seen.add(Due.outcome(keys::read));
        return seen;
    }
}
