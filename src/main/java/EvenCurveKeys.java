import java.util.NoSuchElementException;

/**
 * Keys on the curve y * y = x * x * x + 7 over the field of p = 1073735023 numbers, which has
 * n = 1073729077 points: six slots of keys, signatures, proofs, bundles of proofs, agreed secrets
 * and the written form of signatures.
 *
 * <p>A point is held as one long, so that no call makes an object: see {@link Curve}.
 */
public final class EvenCurveKeys {
    /** Answered by read: the bytes are no written form. */
    public static final int WRONG = -1;

    private static final int SLOTS = 6;
    private static final int MOST_TRIES = 64;
    private static final int MOST_ITEMS = 8;
    private static final int MOST_TYPED = 20;

    /** No slot's secret is 0, so 0 tells that there is none. */
    private static final long NO_SECRET = 0;

    /** Puts one number above another in a long. */
    private static final long ABOVE = 4294967296L;

    /** The public points, Curve.INFINITY in empty slots. */
    private final long[] points;
    private final long[] secrets;
    private final Items items;
    private final Typed typed;
    private int lastMark;

    public EvenCurveKeys() {
        points = new long[SLOTS];
        secrets = new long[SLOTS];
        items = new Items();
        typed = new Typed();
        lastMark = 0;
    }

    public long secret(int slot, int d)
            throws IndexOutOfBoundsException, IllegalArgumentException {
        needSlot(slot);
        needArgument(Scalars.isUnit(d));
        return fill(slot, Curve.multiple(d, Curve.G), d);
    }

    public void open(int slot, long code)
            throws IndexOutOfBoundsException, IllegalArgumentException {
        needSlot(slot);
        long point = Curve.fromCode(code);
        needArgument(point != Curve.INFINITY);
        fill(slot, point, NO_SECRET);
    }

    public long code(int slot) throws IndexOutOfBoundsException {
        needSlot(slot);
        return Curve.toCode(points[slot]);
    }

    public long even(int x) {
        return Curve.toCode(Curve.pointAt(x, false));
    }

    public long tweak(int slot, int t, boolean times)
            throws IndexOutOfBoundsException, NoSuchElementException, IllegalArgumentException {
        needSlot(slot);
        long point = pointOf(slot);
        needArgument(Scalars.has(t));
        long moved = times
                ? Curve.multiple(t, point)
                : Curve.sum(point, Curve.multiple(t, Curve.G));
        needArgument(moved != Curve.INFINITY);
        return fill(slot, moved, movedSecret(secrets[slot], t, times));
    }

    public long combine(int slot, int a, int b)
            throws IndexOutOfBoundsException, NoSuchElementException, IllegalArgumentException {
        needSlot(slot);
        needSlot(a);
        needSlot(b);
        long point = Curve.sum(pointOf(a), pointOf(b));
        needArgument(point != Curve.INFINITY);
        return fill(slot, point, NO_SECRET);
    }

    public long linear(int slot, int a, int b)
            throws IndexOutOfBoundsException, NoSuchElementException, IllegalArgumentException {
        needSlot(slot);
        long point = pointOf(slot);
        needArgument(Scalars.has(a) && Scalars.has(b));
        return Curve.toCode(Curve.sumOfMultiples(a, Curve.G, b, point));
    }

    public long sign(int slot, long message)
            throws IndexOutOfBoundsException, IllegalStateException, UnsupportedOperationException {
        needSlot(slot);
        long d = secretOf(slot);
        // The digest may be n or more: it is mixed as it is, and only the scalars take it modulo n.
        long z = digest(message);
        long seed = mix(d, z);
        for (int i = 1; i <= MOST_TRIES; i++) {
            long k = mix(seed, i) >>> 33;
            if (Scalars.isUnit(k)) {
                long nonce = Curve.multiple(k, Curve.G);
                long r = Curve.xOf(nonce) % Scalars.N;
                long s = Scalars.quotient(z + r * d, k);
                if (r != 0 && s != 0) {
                    lastMark = markOf(nonce, s);
                    return r * ABOVE + (s > Scalars.HALF ? Scalars.N - s : s);
                }
            }
        }
        throw new UnsupportedOperationException();
    }

    public int mark() {
        return lastMark;
    }

    public boolean good(int slot, long message, int r, int s)
            throws IndexOutOfBoundsException, NoSuchElementException {
        needSlot(slot);
        long point = pointOf(slot);
        if (!Scalars.isUnit(r) || !Scalars.isUnit(s) || s > Scalars.HALF) {
            return false;
        }
        long u = Scalars.quotient(digest(message), s);
        long v = Scalars.quotient(r, s);
        long nonce = Curve.sumOfMultiples(u, Curve.G, v, point);
        return nonce != Curve.INFINITY && Curve.xOf(nonce) % Scalars.N == r;
    }

    public long recover(int slot, long message, int r, int s, int mark)
            throws IndexOutOfBoundsException, IllegalArgumentException {
        needSlot(slot);
        needArgument(Scalars.isUnit(r) && Scalars.isUnit(s) && mark >= 0 && mark <= 3);
        long x = (mark & 2) == 0 ? r : r + Scalars.N;
        long nonce = Curve.pointAt(x, (mark & 1) == 1);
        needArgument(nonce != Curve.INFINITY);
        long u = Scalars.quotient(s, r);
        long v = Scalars.N - Scalars.quotient(digest(message), r);
        long point = Curve.sumOfMultiples(u, nonce, v, Curve.G);
        needArgument(point != Curve.INFINITY);
        return fill(slot, point, NO_SECRET);
    }

    public long prove(int slot, long message, long aux)
            throws IndexOutOfBoundsException, IllegalStateException, UnsupportedOperationException {
        needSlot(slot);
        long d = evenScalar(secretOf(slot), points[slot]);
        long px = Curve.xOf(points[slot]);
        long masked = d ^ (mix(aux, 23) >>> 34);
        long k = (mix(mix(masked, px), message) >>> 33) % Scalars.N;
        if (k == 0) {
            throw new UnsupportedOperationException();
        }
        long nonce = Curve.multiple(k, Curve.G);
        long rx = Curve.xOf(nonce);
        long e = challenge(rx, px, message);
        return rx * ABOVE + (evenScalar(k, nonce) + e * d) % Scalars.N;
    }

    public boolean holds(int slot, long message, int rx, int s)
            throws IndexOutOfBoundsException, NoSuchElementException {
        needSlot(slot);
        long point = Curve.evenOf(pointOf(slot));
        if (!Field.has(rx) || !Scalars.has(s)) {
            return false;
        }
        long e = challenge(rx, Curve.xOf(point), message);
        long nonce = Curve.sumOfMultiples(s, Curve.G, Scalars.N - e, point);
        return nonce != Curve.INFINITY && !Curve.isOdd(nonce) && Curve.xOf(nonce) == rx;
    }

    public int bundle(int slot, long message, int rx, int s)
            throws IndexOutOfBoundsException, NoSuchElementException,
                    UnsupportedOperationException {
        needSlot(slot);
        long point = pointOf(slot);
        if (items.areFull()) {
            throw new UnsupportedOperationException();
        }
        return items.put(point, message, rx, s);
    }

    public boolean right(long seed) {
        boolean balanced = items.balance(seed);
        items.clear();
        return balanced;
    }

    public long agree(int slot, int other)
            throws IndexOutOfBoundsException, IllegalStateException, NoSuchElementException {
        needSlot(slot);
        needSlot(other);
        long d = secretOf(slot);
        long shared = Curve.multiple(d, pointOf(other));
        return mix(Curve.xOf(shared), Curve.yOf(shared));
    }

    public int written(int r, int s, int i) throws IllegalArgumentException {
        needArgument(r >= 0 && s >= 0);
        int length = Form.length(r, s);
        needArgument(i >= -1 && i < length);
        return i == -1 ? length : Form.byteAt(r, s, i);
    }

    public int type(int b) throws IllegalArgumentException, UnsupportedOperationException {
        needArgument(b >= 0 && b <= 255);
        if (typed.isFull()) {
            throw new UnsupportedOperationException();
        }
        return typed.put(b);
    }

    public long read() {
        long numbers = typed.numbers();
        typed.clear();
        return numbers;
    }

    private static void needSlot(int slot) {
        if (slot < 0 || slot >= SLOTS) {
            throw new IndexOutOfBoundsException();
        }
    }

    private static void needArgument(boolean fits) {
        if (!fits) {
            throw new IllegalArgumentException();
        }
    }

    private long pointOf(int slot) {
        if (points[slot] == Curve.INFINITY) {
            throw new NoSuchElementException();
        }
        return points[slot];
    }

    private long secretOf(int slot) {
        if (secrets[slot] == NO_SECRET) {
            throw new IllegalStateException();
        }
        return secrets[slot];
    }

    /** Answers the code of the point, as most of the calls that fill a slot do. */
    private long fill(int slot, long point, long secret) {
        points[slot] = point;
        secrets[slot] = secret;
        return Curve.toCode(point);
    }

    private static long movedSecret(long d, long t, boolean times) {
        if (d == NO_SECRET) {
            return NO_SECRET;
        }
        return (times ? d * t : d + t) % Scalars.N;
    }

    /** The mark of a signature, s being what it is before it is made small. */
    private static int markOf(long nonce, long s) {
        int odd = Curve.isOdd(nonce) != (s > Scalars.HALF) ? 1 : 0;
        return Curve.xOf(nonce) >= Scalars.N ? odd + 2 : odd;
    }

    /** The scalar k of the point k * G, or that of its even twin if the point is odd. */
    private static long evenScalar(long k, long point) {
        return Curve.isOdd(point) ? Scalars.N - k : k;
    }

    /** H of the document. */
    private static long mix(long a, long b) {
        long u = (a ^ 0x51ED270B7F4A7C15L) * 6364136223846793005L + b;
        u = u ^ (u >>> 31);
        u = u * 0x2545F4914F6CDD1DL;
        return u ^ (u >>> 28);
    }

    private static long digest(long message) {
        return mix(message, 17) >>> 34;
    }

    /** The scalar e that ties a proof to its message. */
    private static long challenge(long rx, long px, long message) {
        return (mix(mix(rx * ABOVE + px, 29), message) >>> 33) % Scalars.N;
    }

    /** What a, 1 .. prime - 1, is to be multiplied with for 1: Euclid's way, by quotients. */
    private static long inverse(long a, long prime) {
        long high = prime;
        long low = a;
        long highFactor = 0;
        long lowFactor = 1;
        // Numbers below 2^30 need at most 43 steps.
        for (int step = 0; step < 64 && low != 0; step++) {
            long quotient = high / low;
            long rest = high - quotient * low;
            long restFactor = highFactor - quotient * lowFactor;
            high = low;
            low = rest;
            highFactor = lowFactor;
            lowFactor = restFactor;
        }
        return highFactor < 0 ? highFactor + prime : highFactor;
    }

    /** Numbers modulo p; below 2^30, so that a product of two fits a long three times over. */
    private static final class Field {
        static final long P = 1073735023L;

        static boolean has(long number) {
            return number >= 0 && number < P;
        }

        static long reduced(long number) {
            long rest = number % P;
            return rest < 0 ? rest + P : rest;
        }

        static long quotient(long a, long b) {
            return reduced(a) * inverse(reduced(b), P) % P;
        }

        /** A number whose square is a, if there is one: p % 4 is 3, so this power of a is it. */
        static long rootIfAny(long a) {
            long exponent = (P + 1) / 4;
            long power = 1;
            for (int bit = 29; bit >= 0; bit--) {
                power = power * power % P;
                if (((exponent >>> bit) & 1) == 1) {
                    power = power * a % P;
                }
            }
            return power;
        }
    }

    /** Numbers modulo n. */
    private static final class Scalars {
        static final long N = 1073729077L;
        static final long HALF = (N - 1) / 2;

        static boolean has(long number) {
            return number >= 0 && number < N;
        }

        /** Whether it is a scalar that one can divide by. */
        static boolean isUnit(long number) {
            return number >= 1 && number < N;
        }

        /** For an a that is not below 0. */
        static long quotient(long a, long b) {
            return a % N * inverse(b, N) % N;
        }
    }

    /** Points, each held as x * 2^32 + y; y is never 0, so that 0 is free for INFINITY. */
    private static final class Curve {
        static final long INFINITY = 0;
        static final long G = 1 * ABOVE + 116058060;

        static long xOf(long point) {
            return point / ABOVE;
        }

        static long yOf(long point) {
            return point % ABOVE;
        }

        static boolean isOdd(long point) {
            return point % 2 == 1;
        }

        static long negative(long point) {
            return point == INFINITY ? INFINITY : xOf(point) * ABOVE + (Field.P - yOf(point));
        }

        static long evenOf(long point) {
            return isOdd(point) ? negative(point) : point;
        }

        /** The even or odd point with this x, any number; INFINITY if there is none. */
        static long pointAt(long x, boolean odd) {
            if (!Field.has(x)) {
                return INFINITY;
            }
            long square = (x * x % Field.P * x + 7) % Field.P;
            long y = Field.rootIfAny(square);
            if (y * y % Field.P != square) {
                return INFINITY;
            }
            long point = x * ABOVE + y;
            return isOdd(point) == odd ? point : negative(point);
        }

        static long toCode(long point) {
            return point == INFINITY ? 0 : (2 + point % 2) * ABOVE + xOf(point);
        }

        /** INFINITY, too, if it is no point's code. */
        static long fromCode(long code) {
            long kind = code >>> 32;
            return kind == 2 || kind == 3 ? pointAt(code % ABOVE, kind == 3) : INFINITY;
        }

        static long sum(long a, long b) {
            if (a == INFINITY) {
                return b;
            }
            if (b == INFINITY) {
                return a;
            }
            long xa = xOf(a);
            long ya = yOf(a);
            long xb = xOf(b);
            if (xa == xb && a != b) {
                return INFINITY;
            }
            long slope = a == b
                    ? Field.quotient(3 * xa * xa, 2 * ya)
                    : Field.quotient(yOf(b) - ya, xb - xa);
            long x = Field.reduced(slope * slope - xa - xb);
            return x * ABOVE + Field.reduced(slope * (xa - x) - ya);
        }

        /** k * point for k = 0 .. n, by doubling: a bit of k a step. */
        static long multiple(long k, long point) {
            long total = INFINITY;
            for (int bit = 29; bit >= 0; bit--) {
                total = sum(total, total);
                if (((k >>> bit) & 1) == 1) {
                    total = sum(total, point);
                }
            }
            return total;
        }

        static long sumOfMultiples(long k, long a, long l, long b) {
            return sum(multiple(k, a), multiple(l, b));
        }
    }

    /** The bundle. */
    private static final class Items {
        /** The even points with the x of the public points: RIGHT asks for no others. */
        private final long[] evens = new long[MOST_ITEMS];
        private final long[] messages = new long[MOST_ITEMS];
        private final int[] rxs = new int[MOST_ITEMS];
        private final int[] ss = new int[MOST_ITEMS];
        private int count = 0;

        boolean areFull() {
            return count >= MOST_ITEMS;
        }

        /** Answers how many there are then; not for a full bundle. */
        int put(long point, long message, int rx, int s) {
            evens[count] = Curve.evenOf(point);
            messages[count] = message;
            rxs[count] = rx;
            ss[count] = s;
            count++;
            return count;
        }

        void clear() {
            count = 0;
        }

        /** Whether the bundle is RIGHT. */
        boolean balance(long seed) {
            long scalars = 0;
            long total = Curve.INFINITY;
            for (int i = 0; i < count; i++) {
                long nonce = Curve.pointAt(rxs[i], false);
                if (nonce == Curve.INFINITY || !Scalars.has(ss[i])) {
                    return false;
                }
                long w = weight(seed, i);
                long e = challenge(rxs[i], Curve.xOf(evens[i]), messages[i]);
                scalars = (scalars + w * ss[i]) % Scalars.N;
                long due = Curve.sumOfMultiples(w, nonce, w * e % Scalars.N, evens[i]);
                total = Curve.sum(total, due);
            }
            return Curve.multiple(scalars, Curve.G) == total;
        }

        private static long weight(long seed, int i) {
            return i == 0 ? 1 : 1 + (mix(seed, i) >>> 34) % (Scalars.N - 1);
        }
    }

    /** The written form of two numbers, neither of them below 0. */
    private static final class Form {
        static final int PAIR = 48;
        static final int NUMBER = 2;

        /** What stands before the bytes of a number, and before the two numbers. */
        static final int HEAD = 2;

        /** The first byte is below 128, so a number needs one bit more than it has. */
        static int bytesOf(int number) {
            if (number < 1 << 7) {
                return 1;
            }
            if (number < 1 << 15) {
                return 2;
            }
            return number < 1 << 23 ? 3 : 4;
        }

        static int length(int r, int s) {
            return 3 * HEAD + bytesOf(r) + bytesOf(s);
        }

        static int byteAt(int r, int s, int i) {
            if (i == 0) {
                return PAIR;
            }
            if (i == 1) {
                return length(r, s) - HEAD;
            }
            int atS = 2 * HEAD + bytesOf(r);
            return i < atS ? numberByteAt(r, i - HEAD) : numberByteAt(s, i - atS);
        }

        private static int numberByteAt(int number, int i) {
            if (i == 0) {
                return NUMBER;
            }
            int bytes = bytesOf(number);
            return i == 1 ? bytes : (number >>> (8 * (bytes + 1 - i))) & 255;
        }
    }

    /** The bytes that are typed. */
    private static final class Typed {
        private final int[] bytes = new int[MOST_TYPED];
        private int count = 0;

        boolean isFull() {
            return count >= MOST_TYPED;
        }

        /** Answers how many there are then; not when it is full. */
        int put(int b) {
            bytes[count] = b;
            count++;
            return count;
        }

        void clear() {
            count = 0;
        }

        /** What the bytes are the written form of, r above s, or WRONG. */
        long numbers() {
            int atS = Form.HEAD + sizeAt(Form.HEAD);
            int r = numberAt(Form.HEAD);
            int s = numberAt(atS);
            return r >= 0 && s >= 0 && areFormOf(r, s) ? r * ABOVE + s : WRONG;
        }

        /** How many bytes a number that stands here has with its head, as that says. */
        private int sizeAt(int at) {
            return at + 1 < count ? Form.HEAD + bytes[at + 1] : Form.HEAD;
        }

        /** The number that stands here, if one does; some number or other if none does. */
        private int numberAt(int at) {
            int number = 0;
            int end = at + sizeAt(at);
            for (int i = at + Form.HEAD; i < end && i < count; i++) {
                number = number << 8 | bytes[i];
            }
            return number;
        }

        /** There is one form of two numbers, so what reads as it strictly is it byte for byte. */
        private boolean areFormOf(int r, int s) {
            if (count != Form.length(r, s)) {
                return false;
            }
            for (int i = 0; i < count; i++) {
                if (bytes[i] != Form.byteAt(r, s, i)) {
                    return false;
                }
            }
            return true;
        }
    }
}
