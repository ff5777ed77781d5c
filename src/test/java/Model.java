import java.math.BigInteger;
import java.util.ArrayList;
import java.util.Arrays;
import java.util.List;
import java.util.NoSuchElementException;

/**
 * The document a second time, in numbers without a bound and points as pairs: slow, and as near to
 * the document's words as can be, so that the class can be held against it. INFINITY is null.
 */
final class Model {
    record Point(BigInteger x, BigInteger y) {
        boolean isOdd() {
            return y.testBit(0);
        }
    }

    private record Item(Point point, long message, int rx, int s) {}

    static final BigInteger P = number(1073735023);
    static final BigInteger N = number(1073729077);
    static final BigInteger HALF = N.subtract(BigInteger.ONE).shiftRight(1);
    static final Point G = new Point(number(1), number(116058060));
    private static final BigInteger TWO_TO_64 = BigInteger.ONE.shiftLeft(64);

    private final Point[] points = new Point[6];
    private final BigInteger[] secrets = new BigInteger[6];
    private final List<Item> items = new ArrayList<>();
    private final List<Integer> typed = new ArrayList<>();
    private int mark = 0;

    static BigInteger number(long value) {
        return BigInteger.valueOf(value);
    }

    // Points

    static Point sum(Point a, Point b) {
        if (a == null || b == null) {
            return a == null ? b : a;
        }
        if (a.x.equals(b.x) && !a.y.equals(b.y)) {
            return null;
        }
        BigInteger above = a.equals(b) ? number(3).multiply(a.x).multiply(a.x) : b.y.subtract(a.y);
        BigInteger below = a.equals(b) ? number(2).multiply(a.y) : b.x.subtract(a.x);
        BigInteger l = above.multiply(below.modInverse(P));
        BigInteger x = l.multiply(l).subtract(a.x).subtract(b.x).mod(P);
        return new Point(x, l.multiply(a.x.subtract(x)).subtract(a.y).mod(P));
    }

    /** From the lowest bit up, where the class goes from the highest down. */
    static Point multiple(BigInteger k, Point point) {
        Point total = null;
        Point power = point;
        for (int bit = 0; bit < k.bitLength(); bit++) {
            total = k.testBit(bit) ? sum(total, power) : total;
            power = sum(power, power);
        }
        return total;
    }

    static Point multipleOfG(long k) {
        return multiple(number(k).mod(N), G);
    }

    static Point at(BigInteger x, boolean odd) {
        if (x.signum() < 0 || x.compareTo(P) >= 0) {
            return null;
        }
        BigInteger square = x.pow(3).add(number(7)).mod(P);
        if (!square.modPow(P.shiftRight(1), P).equals(BigInteger.ONE)) {
            return null;
        }
        BigInteger y = square.modPow(P.add(BigInteger.ONE).shiftRight(2), P);
        return new Point(x, y.testBit(0) == odd ? y : P.subtract(y));
    }

    static long codeOf(Point point) {
        if (point == null) {
            return 0;
        }
        return (2 + point.y.longValue() % 2) * 4294967296L + point.x.longValue();
    }

    // H and what is made of it

    static long h(long a, long b) {
        BigInteger u = number(a).xor(new BigInteger("51ED270B7F4A7C15", 16)).mod(TWO_TO_64);
        u = u.multiply(new BigInteger("6364136223846793005")).add(number(b)).mod(TWO_TO_64);
        u = u.xor(u.shiftRight(31));
        u = u.multiply(new BigInteger("2545F4914F6CDD1D", 16)).mod(TWO_TO_64);
        return u.xor(u.shiftRight(28)).longValue();
    }

    static long digest(long message) {
        return h(message, 17) >>> 34;
    }

    static BigInteger challenge(BigInteger rx, BigInteger px, long message) {
        long both = rx.longValue() * 4294967296L + px.longValue();
        return number(h(h(both, 29), message) >>> 33).mod(N);
    }

    static BigInteger weight(long seed, int i) {
        BigInteger most = N.subtract(BigInteger.ONE);
        return i == 0 ? BigInteger.ONE : number(h(seed, i) >>> 34).mod(most).add(BigInteger.ONE);
    }

    private static boolean within(BigInteger value, long low, BigInteger high) {
        return value.compareTo(number(low)) >= 0 && value.compareTo(high) <= 0;
    }

    private static boolean isScalar(long value) {
        return within(number(value), 0, N.subtract(BigInteger.ONE));
    }

    private static boolean isUnit(long value) {
        return value != 0 && isScalar(value);
    }

    private static BigInteger quotient(BigInteger a, BigInteger b) {
        return a.multiply(b.modInverse(N)).mod(N);
    }

    private static long pair(BigInteger high, BigInteger low) {
        return high.shiftLeft(32).add(low).longValueExact();
    }

    static int high(long pair) {
        return (int) (pair >>> 32);
    }

    static int low(long pair) {
        return (int) pair;
    }

    // Which exception

    private static void slots(int... asked) {
        for (int slot : asked) {
            if (slot < 0 || slot > 5) {
                throw new IndexOutOfBoundsException();
            }
        }
    }

    private Point point(int slot) {
        if (points[slot] == null) {
            throw new NoSuchElementException();
        }
        return points[slot];
    }

    private BigInteger secretOf(int slot) {
        if (secrets[slot] == null) {
            throw new IllegalStateException();
        }
        return secrets[slot];
    }

    private static void argument(boolean fits) {
        if (!fits) {
            throw new IllegalArgumentException();
        }
    }

    private static void supported(boolean is) {
        if (!is) {
            throw new UnsupportedOperationException();
        }
    }

    private long put(int slot, Point point, BigInteger secret) {
        points[slot] = point;
        secrets[slot] = secret;
        return codeOf(point);
    }

    // The face

    public long secret(int slot, int d) {
        slots(slot);
        argument(isUnit(d));
        return put(slot, multipleOfG(d), number(d));
    }

    public void open(int slot, long code) {
        slots(slot);
        Point found = null;
        for (boolean odd : new boolean[] {false, true}) {
            Point point = at(number(code & 0x7fffffffL), odd);
            found = point != null && codeOf(point) == code ? point : found;
        }
        argument(found != null);
        put(slot, found, null);
    }

    public long code(int slot) {
        slots(slot);
        return codeOf(points[slot]);
    }

    public long even(int x) {
        return codeOf(at(number(x), false));
    }

    public long tweak(int slot, int t, boolean times) {
        slots(slot);
        Point old = point(slot);
        argument(isScalar(t));
        Point next = times ? multiple(number(t), old) : sum(old, multipleOfG(t));
        argument(next != null);
        BigInteger d = secrets[slot];
        if (d != null) {
            d = (times ? d.multiply(number(t)) : d.add(number(t))).mod(N);
        }
        return put(slot, next, d);
    }

    public long combine(int slot, int a, int b) {
        slots(slot, a, b);
        Point next = sum(point(a), point(b));
        argument(next != null);
        return put(slot, next, null);
    }

    public long linear(int slot, int a, int b) {
        slots(slot);
        Point point = point(slot);
        argument(isScalar(a) && isScalar(b));
        return codeOf(sum(multipleOfG(a), multiple(number(b), point)));
    }

    public long sign(int slot, long message) {
        slots(slot);
        BigInteger d = secretOf(slot);
        long z = digest(message);
        for (int i = 1; i <= 64; i++) {
            long k = h(h(d.longValue(), z), i) >>> 33;
            if (!isUnit(k)) {
                continue;
            }
            Point nonce = multipleOfG(k);
            BigInteger r = nonce.x.mod(N);
            BigInteger s = quotient(number(z).add(r.multiply(d)), number(k));
            if (r.signum() == 0 || s.signum() == 0) {
                continue;
            }
            mark = (nonce.isOdd() ? 1 : 0) + (nonce.x.compareTo(N) >= 0 ? 2 : 0);
            if (s.compareTo(HALF) > 0) {
                s = N.subtract(s);
                mark ^= 1;
            }
            return pair(r, s);
        }
        throw new UnsupportedOperationException();
    }

    public int mark() {
        return mark;
    }

    public boolean good(int slot, long message, int r, int s) {
        slots(slot);
        Point point = point(slot);
        if (!isUnit(r) || !within(number(s), 1, HALF)) {
            return false;
        }
        BigInteger u = quotient(number(digest(message)), number(s));
        BigInteger v = quotient(number(r), number(s));
        Point nonce = sum(multiple(u, G), multiple(v, point));
        return nonce != null && nonce.x.mod(N).equals(number(r));
    }

    public long recover(int slot, long message, int r, int s, int mark) {
        slots(slot);
        argument(isUnit(r) && isUnit(s) && within(number(mark), 0, number(3)));
        BigInteger x = mark < 2 ? number(r) : number(r).add(N);
        Point nonce = at(x, mark % 2 == 1);
        argument(nonce != null);
        BigInteger u = quotient(number(s), number(r));
        BigInteger v = quotient(number(-digest(message)), number(r));
        Point found = sum(multiple(u, nonce), multiple(v, G));
        argument(found != null);
        return put(slot, found, null);
    }

    public long prove(int slot, long message, long aux) {
        slots(slot);
        BigInteger d = secretOf(slot);
        Point point = point(slot);
        d = point.isOdd() ? N.subtract(d) : d;
        long masked = d.longValue() ^ (h(aux, 23) >>> 34);
        BigInteger k = number(h(h(masked, point.x.longValue()), message) >>> 33).mod(N);
        supported(k.signum() != 0);
        Point nonce = multiple(k, G);
        k = nonce.isOdd() ? N.subtract(k) : k;
        BigInteger e = challenge(nonce.x, point.x, message);
        return pair(nonce.x, k.add(e.multiply(d)).mod(N));
    }

    public boolean holds(int slot, long message, int rx, int s) {
        slots(slot);
        Point even = at(point(slot).x, false);
        if (!within(number(rx), 0, P.subtract(BigInteger.ONE)) || !isScalar(s)) {
            return false;
        }
        BigInteger e = challenge(number(rx), even.x, message);
        Point nonce = sum(multipleOfG(s), multiple(N.subtract(e), even));
        return nonce != null && !nonce.isOdd() && nonce.x.equals(number(rx));
    }

    public int bundle(int slot, long message, int rx, int s) {
        slots(slot);
        Point point = point(slot);
        supported(items.size() < 8);
        items.add(new Item(point, message, rx, s));
        return items.size();
    }

    public boolean right(long seed) {
        List<Item> tried = List.copyOf(items);
        items.clear();
        Point left = null;
        Point due = null;
        for (int i = 0; i < tried.size(); i++) {
            Item item = tried.get(i);
            Point nonce = at(number(item.rx), false);
            if (nonce == null || !isScalar(item.s)) {
                return false;
            }
            BigInteger w = weight(seed, i);
            BigInteger e = challenge(nonce.x, item.point.x, item.message);
            left = sum(left, multiple(w, multipleOfG(item.s)));
            due = sum(due, multiple(w, nonce));
            due = sum(due, multiple(w, multiple(e, at(item.point.x, false))));
        }
        return left == null ? due == null : left.equals(due);
    }

    public long agree(int slot, int other) {
        slots(slot, other);
        BigInteger d = secretOf(slot);
        Point shared = multiple(d, point(other));
        return h(shared.x.longValue(), shared.y.longValue());
    }

    // The written form: a number's bytes are just those of BigInteger

    static List<Integer> form(int r, int s) {
        List<Integer> inner = new ArrayList<>();
        for (int number : new int[] {r, s}) {
            byte[] bytes = number(number).toByteArray();
            inner.add(2);
            inner.add(bytes.length);
            for (byte b : bytes) {
                inner.add(b & 255);
            }
        }
        List<Integer> whole = new ArrayList<>(List.of(48, inner.size()));
        whole.addAll(inner);
        return whole;
    }

    /** Tries every way to cut the bytes into two numbers. */
    static long readForm(List<Integer> bytes) {
        for (int rBytes = 1; rBytes <= 4; rBytes++) {
            for (int sBytes = 1; sBytes <= 4; sBytes++) {
                if (bytes.size() == 6 + rBytes + sBytes) {
                    BigInteger r = value(bytes.subList(4, 4 + rBytes));
                    BigInteger s = value(bytes.subList(6 + rBytes, 6 + rBytes + sBytes));
                    boolean fit = r.signum() >= 0 && s.signum() >= 0;
                    if (fit && form(r.intValueExact(), s.intValueExact()).equals(bytes)) {
                        return pair(r, s);
                    }
                }
            }
        }
        return -1;
    }

    private static BigInteger value(List<Integer> bytes) {
        byte[] raw = new byte[bytes.size()];
        for (int i = 0; i < raw.length; i++) {
            raw[i] = bytes.get(i).byteValue();
        }
        return new BigInteger(raw);
    }

    public int written(int r, int s, int i) {
        argument(r >= 0 && s >= 0);
        List<Integer> bytes = form(r, s);
        argument(i >= -1 && i < bytes.size());
        return i == -1 ? bytes.size() : bytes.get(i);
    }

    public int type(int b) {
        argument(b >= 0 && b <= 255);
        supported(typed.size() < 20);
        typed.add(b);
        return typed.size();
    }

    public long read() {
        List<Integer> bytes = Arrays.asList(typed.toArray(new Integer[0]));
        typed.clear();
        return readForm(bytes);
    }
}
