/** Numbers at the document's boundaries that several tests use. */
final class Edges {
    static final int P = 1073735023;
    static final int N = 1073729077;

    static final int[] NO_SLOTS = {-1, 6, Integer.MIN_VALUE, Integer.MAX_VALUE};
    static final int[] NO_SCALARS = {-1, N, N + 1, Integer.MIN_VALUE, Integer.MAX_VALUE};

    /** What no secret is, and no r or s of a signature: 1 .. n - 1 are. */
    static final int[] NO_UNITS = {0, -1, N, N + 1, P, Integer.MIN_VALUE, Integer.MAX_VALUE};

    /** k of the even points with the x 1, n - 1, n + 1 and p - 3. */
    static final int K_OF_1 = 1;
    static final int K_UNDER_N = 1073504826;
    static final int K_OVER_N = 460199590;
    static final int K_HIGHEST = 870684867;

    /** The lowest x of a point and the highest, and those around n: x, and k of the even point. */
    static final int[][] X = {
        {1, K_OF_1}, {N - 1, K_UNDER_N}, {N + 1, K_OVER_N}, {P - 3, K_HIGHEST}
    };

    /** Beside those: -1 and p are no field numbers, the others no x of a point. */
    static final int[] NO_X = {-1, 0, N, P - 2, P - 1, P};

    private Edges() {}
}
