import java.math.BigInteger;

/** The numbers that the document's terms build on, and H, by answers of the class. */
public final class TermsTest {
    private static final int P = Edges.P;
    private static final int N = Edges.N;

    /** Worked out by a program apart from this one. */
    private static final long H_OF_G = -4083746364732168254L;
    private static final long H_OF_TWIN = -8805329992036909096L;

    private static final Due DUE = new Due("TermsTest");

    public static void main(String[] args) {
        primes();
        pointsOfTheCurve();
        everyPointIsAMultiple();
        hOfPoints();
        DUE.end();
    }

    private static void primes() {
        DUE.truth("p is prime", true, () -> BigInteger.valueOf(P).isProbablePrime(60));
        DUE.truth("n is prime", true, () -> BigInteger.valueOf(N).isProbablePrime(60));
        // The class takes roots by a power that is one for such p alone.
        DUE.number("p % 4", 3, () -> P % 4);
    }

    /** n * G is INFINITY, n is prime, and so near p + 1 that no other count of points fits. */
    private static void pointsOfTheCurve() {
        EvenCurveKeys keys = new EvenCurveKeys();
        long g = 2 * 4294967296L + 1;
        DUE.number("116058060 ^ 2 modulo p", 8, () -> 116058060L * 116058060 % P);
        DUE.number("secret(0, 1)", g, () -> keys.secret(0, 1));
        DUE.number("even(1)", g, () -> keys.even(1));
        DUE.number("(n - 1) * G + G", 0, () -> keys.linear(0, N - 1, 1));
        DUE.number("G + (n - 1) * G", 0, () -> keys.linear(0, 1, N - 1));
        DUE.number("(n - 1) * G", g + 4294967296L, () -> keys.linear(0, 0, N - 1));
        DUE.truth("p + 1 - n squared is at most 4 * p", true,
                () -> (P + 1L - N) * (P + 1L - N) <= 4L * P);
    }

    /** So n - 1 times a point is its twin, and both sum up to INFINITY, whatever its x is. */
    private static void everyPointIsAMultiple() {
        for (int i = 0; i < 200; i++) {
            EvenCurveKeys keys = new EvenCurveKeys();
            int x = i * 5368675;
            long even = keys.even(x);
            if (even != 0) {
                keys.open(0, even);
                keys.open(1, even + 4294967296L);
                String point = "the point with x " + x;
                DUE.number("x of " + point, x, () -> even % 4294967296L);
                DUE.number("(n - 1) * " + point, keys.code(1), () -> keys.linear(0, 0, N - 1));
                DUE.notFit("the sum of both with x " + x, () -> keys.combine(2, 0, 1));
                DUE.number("(n - 1) * its twin", even, () -> keys.tweak(1, N - 1, true));
            }
        }
    }

    /** agree answers H itself, all its 64 bits. */
    private static void hOfPoints() {
        EvenCurveKeys keys = new EvenCurveKeys();
        keys.secret(0, 1);
        keys.secret(1, N - 1);
        DUE.number("H of G", H_OF_G, () -> keys.agree(0, 0));
        DUE.number("H of the twin of G", H_OF_TWIN, () -> keys.agree(0, 1));
        DUE.number("H of G again", H_OF_G, () -> keys.agree(1, 1));
    }
}
