import java.util.ArrayList;
import java.util.List;

/** Promises 18 to 20: the written form, and how strictly it is read. */
public final class FormTest {
    /** Each last number of so many bytes and the next one, and where the first byte is 128. */
    private static final int[] NUMBERS = {
        0, 1, 5, 127, 128, 129, 255, 256, 32767, 32768, 32769, 65535, 65536, 8388607, 8388608,
        8388609, 16777215, 16777216, 1073741824, 2147483646, 2147483647
    };

    private static final Due DUE = new Due("FormTest");

    public static void main(String[] args) {
        written();
        writtenAtTheEdges();
        writtenRefuses();
        type();
        typeOfEachByte();
        typeStaysThroughOtherCalls();
        typeRefuses();
        readOfForms();
        readOfChangedForms();
        readOfCutAndLongForms();
        readOfWrongLengths();
        readOfOtherForms();
        readForgets();
        readSeesNoOldBytes();
        DUE.end();
    }

    private static void written() {
        for (int r : NUMBERS) {
            for (int s : NUMBERS) {
                EvenCurveKeys keys = new EvenCurveKeys();
                List<Integer> form = Model.form(r, s);
                String of = " of " + r + " and " + s;
                DUE.number("length" + of, form.size(), () -> keys.written(r, s, -1));
                for (int i = 0; i < form.size(); i++) {
                    int asked = i;
                    DUE.number("byte " + i + of, form.get(i), () -> keys.written(r, s, asked));
                }
                DUE.notFit("byte past the last" + of,
                        () -> keys.written(r, s, form.size()));
            }
        }
    }

    /** The shortest form and the longest, byte by byte, and the bytes before and after them. */
    private static void writtenAtTheEdges() {
        int[][] pairs = {{0, 0}, {Integer.MAX_VALUE, Integer.MAX_VALUE}, {127, 128}};
        int[][] forms = {
            {48, 6, 2, 1, 0, 2, 1, 0},
            {48, 12, 2, 4, 127, 255, 255, 255, 2, 4, 127, 255, 255, 255},
            {48, 7, 2, 1, 127, 2, 2, 0, 128}
        };
        EvenCurveKeys keys = new EvenCurveKeys();
        for (int which = 0; which < pairs.length; which++) {
            int r = pairs[which][0];
            int s = pairs[which][1];
            int[] form = forms[which];
            DUE.notFit("byte -2", () -> keys.written(r, s, -2));
            DUE.number("byte -1", form.length, () -> keys.written(r, s, -1));
            for (int i = 0; i < form.length; i++) {
                int asked = i;
                DUE.number("byte " + i, form[i], () -> keys.written(r, s, asked));
            }
            DUE.notFit("byte after the last", () -> keys.written(r, s, form.length));
        }
        DUE.number("r = 0", 8, () -> keys.written(0, 1, -1));
        DUE.notFit("r = -1", () -> keys.written(-1, 1, -1));
        DUE.number("s = 0", 8, () -> keys.written(1, 0, -1));
        DUE.notFit("s = -1", () -> keys.written(1, -1, -1));
    }

    private static void writtenRefuses() {
        EvenCurveKeys keys = new EvenCurveKeys();
        for (int wrong : new int[] {-1, -128, Integer.MIN_VALUE}) {
            for (int i = -1; i < 8; i++) {
                int asked = i;
                DUE.notFit("written of r = " + wrong, () -> keys.written(wrong, 1, asked));
                DUE.notFit("written of s = " + wrong, () -> keys.written(1, wrong, asked));
            }
        }
        for (int i : new int[] {-2, -3, 8, 9, 20, Integer.MIN_VALUE, Integer.MAX_VALUE}) {
            DUE.notFit("written's byte " + i, () -> keys.written(1, 1, i));
        }
        DUE.number("read()", EvenCurveKeys.WRONG, keys::read);
        DUE.number("type(0)", 1, () -> keys.type(0));
    }

    private static void type() {
        EvenCurveKeys keys = new EvenCurveKeys();
        int[] bytes = {0, 1, 127, 128, 255};
        for (int round = 0; round < 3; round++) {
            for (int count = 1; count <= 20; count++) {
                int b = bytes[count % bytes.length];
                DUE.number("type(" + b + ")", count, () -> keys.type(b));
            }
            DUE.notDone("type of a 21st", () -> keys.type(0));
            DUE.notDone("type of a 21st", () -> keys.type(255));
            // A wrong byte is looked at before there being room.
            DUE.notFit("type(256)", () -> keys.type(256));
            DUE.number("read()", EvenCurveKeys.WRONG, keys::read);
        }
    }

    private static void typeOfEachByte() {
        for (int b = -3; b < 259; b++) {
            int asked = b;
            EvenCurveKeys keys = new EvenCurveKeys();
            if (b >= 0 && b <= 255) {
                DUE.number("type(" + b + ")", 1, () -> keys.type(asked));
                DUE.number("type(0) then", 2, () -> keys.type(0));
            } else {
                DUE.notFit("type(" + b + ")", () -> keys.type(asked));
                DUE.number("type(0) then", 1, () -> keys.type(0));
            }
        }
    }

    private static void typeStaysThroughOtherCalls() {
        EvenCurveKeys keys = new EvenCurveKeys();
        int count = 0;
        for (int b : Model.form(300, 70000)) {
            count++;
            int due = count;
            DUE.number("type among other calls", due, () -> keys.type(b));
            DUE.notFit("type(256)", () -> keys.type(256));
            keys.secret(count % 6, count);
            keys.sign(count % 6, count);
            keys.bundle(count % 6, 7, 1, 1);
            keys.right(1);
            keys.written(5, 7, 1);
        }
        DUE.number("read among other calls", 300 * 4294967296L + 70000, keys::read);
    }

    private static void typeRefuses() {
        EvenCurveKeys keys = new EvenCurveKeys();
        for (int b : new int[] {-1, 256, 257, -128, Integer.MIN_VALUE, Integer.MAX_VALUE}) {
            DUE.notFit("type(" + b + ")", () -> keys.type(b));
        }
        DUE.number("type after throws", 1, () -> keys.type(48));
    }

    private static void reads(List<Integer> bytes, long due) {
        EvenCurveKeys keys = new EvenCurveKeys();
        for (int b : bytes) {
            keys.type(b);
        }
        DUE.number("read of " + bytes, due, keys::read);
    }

    private static List<Integer> with(List<Integer> bytes, int at, int b) {
        List<Integer> changed = new ArrayList<>(bytes);
        changed.set(at, b);
        return changed;
    }

    private static void readOfForms() {
        for (int r : NUMBERS) {
            for (int s : NUMBERS) {
                reads(Model.form(r, s), r * 4294967296L + s);
            }
        }
    }

    private static void readOfChangedForms() {
        int[][] pairs = {
            {0, 0}, {5, 7}, {5, 128}, {128, 5}, {32768, 127}, {255, 8388608},
            {2147483647, 2147483647}, {16777216, 65535}
        };
        for (int[] pair : pairs) {
            List<Integer> form = Model.form(pair[0], pair[1]);
            for (int at = 0; at < form.size(); at++) {
                for (int b = 0; b < 256; b++) {
                    List<Integer> changed = with(form, at, b);
                    reads(changed, Model.readForm(changed));
                }
            }
        }
    }

    private static void readOfCutAndLongForms() {
        for (int r : new int[] {0, 128, 8388608, 2147483647}) {
            for (int s : new int[] {0, 255, 32768, 2147483647}) {
                List<Integer> form = Model.form(r, s);
                for (int length = 0; length < form.size(); length++) {
                    List<Integer> cut = form.subList(0, length);
                    reads(cut, EvenCurveKeys.WRONG);
                    if (length >= 2) {
                        reads(with(cut, 1, length - 2), EvenCurveKeys.WRONG);
                    }
                }
                List<Integer> longer = new ArrayList<>(form);
                while (longer.size() < 20) {
                    longer.add(longer.size() % 3);
                    reads(longer, EvenCurveKeys.WRONG);
                    reads(with(longer, 1, longer.size() - 2), EvenCurveKeys.WRONG);
                }
            }
        }
    }

    /** With all the bytes that can be typed, lengths that point at the last ones and beyond. */
    private static void readOfWrongLengths() {
        List<Integer> full = new ArrayList<>(Model.form(5, 7));
        while (full.size() < 20) {
            full.add(2);
        }
        for (int rBytes = 0; rBytes < 256; rBytes++) {
            List<Integer> changed = with(full, 3, rBytes);
            reads(changed, EvenCurveKeys.WRONG);
            for (int count = 0; count < 20; count++) {
                List<Integer> part = changed.subList(0, count);
                reads(part, Model.readForm(part));
            }
        }
    }

    private static void readOfOtherForms() {
        // More bytes than need be, for r and for s.
        reads(List.of(48, 7, 2, 2, 0, 5, 2, 1, 7), EvenCurveKeys.WRONG);
        reads(List.of(48, 7, 2, 1, 5, 2, 2, 0, 127), EvenCurveKeys.WRONG);
        reads(List.of(48, 8, 2, 3, 0, 0, 128, 2, 1, 7), EvenCurveKeys.WRONG);
        reads(List.of(48, 7, 2, 2, 0, 0, 2, 1, 0), EvenCurveKeys.WRONG);
        // 2147483648 and other numbers of five bytes.
        reads(List.of(48, 10, 2, 5, 0, 128, 0, 0, 0, 2, 1, 7), EvenCurveKeys.WRONG);
        reads(List.of(48, 10, 2, 5, 1, 0, 0, 0, 5, 2, 1, 7), EvenCurveKeys.WRONG);
        reads(List.of(48, 10, 2, 1, 7, 2, 5, 1, 0, 0, 0, 5), EvenCurveKeys.WRONG);
        // First bytes of 128 and more.
        reads(List.of(48, 6, 2, 1, 128, 2, 1, 7), EvenCurveKeys.WRONG);
        reads(List.of(48, 9, 2, 4, 255, 255, 255, 255, 2, 1, 7), EvenCurveKeys.WRONG);
        reads(List.of(48, 9, 2, 1, 7, 2, 4, 128, 0, 0, 0), EvenCurveKeys.WRONG);
        // No bytes, and a length that itself has a length.
        reads(List.of(48, 4, 2, 0, 2, 0), EvenCurveKeys.WRONG);
        reads(List.of(48, 5, 2, 0, 2, 1, 7), EvenCurveKeys.WRONG);
        reads(List.of(48, 129, 6, 2, 1, 5, 2, 1, 7), EvenCurveKeys.WRONG);
        reads(List.of(48, 7, 2, 129, 1, 5, 2, 1, 7), EvenCurveKeys.WRONG);
        reads(List.of(), EvenCurveKeys.WRONG);
    }

    private static void readForgets() {
        EvenCurveKeys keys = new EvenCurveKeys();
        for (int round = 0; round < 2; round++) {
            keys.type(48);
            keys.type(9);
            DUE.number("read of a part", EvenCurveKeys.WRONG, keys::read);
            DUE.number("read of nothing", EvenCurveKeys.WRONG, keys::read);
            for (int b : Model.form(5, 7)) {
                keys.type(b);
            }
            DUE.number("read", 5 * 4294967296L + 7, keys::read);
            DUE.number("read again", EvenCurveKeys.WRONG, keys::read);
            DUE.number("type after read", 1, () -> keys.type(48));
            DUE.number("read of one", EvenCurveKeys.WRONG, keys::read);
        }
    }

    private static void readAfter(List<Integer> old, List<Integer> bytes, long due) {
        EvenCurveKeys keys = new EvenCurveKeys();
        old.forEach(keys::type);
        keys.read();
        bytes.forEach(keys::type);
        DUE.number("read of " + bytes + " after " + old, due, keys::read);
    }

    /** Bytes of an earlier read do not make up for those that lack, nor lengthen those typed. */
    private static void readSeesNoOldBytes() {
        List<Integer> twenty = new ArrayList<>(Model.form(5, 7));
        while (twenty.size() < 20) {
            twenty.add(2);
        }
        for (int number : NUMBERS) {
            List<Integer> form = Model.form(number, number);
            readAfter(twenty, form, number * 4294967296L + number);
            readAfter(form, form, number * 4294967296L + number);
            for (int length = 0; length < form.size(); length++) {
                readAfter(form, form.subList(0, length), EvenCurveKeys.WRONG);
            }
        }
    }
}
