import java.lang.reflect.InvocationTargetException;
import java.lang.reflect.Method;
import java.util.ArrayList;
import java.util.Arrays;
import java.util.HashMap;
import java.util.List;
import java.util.Map;
import java.util.Random;

/** All promises: long runs of calls, the same on the class and on the model. */
public final class RunsTest {
    private static final int RUNS = 60;
    private static final int CALLS = 512;
    private static final int N = Edges.N;
    private static final int P = Edges.P;
    private static final int[] EDGES = {
        0, 1, 2, -1, N - 1, N, N + 1, N / 2, N / 2 + 1, P - 3, P - 1, P, P - 3 - N, P - N,
        Integer.MAX_VALUE, Integer.MIN_VALUE
    };
    private static final int[] BYTES = {48, 2, 0, 1, 127, 128, 255, 256, -1};
    private static final long[] MESSAGES = {
        0, 1, 2, -3, Long.MIN_VALUE, Unmix.messageOf(0), Unmix.messageOf(N + 5)
    };

    private static final Due DUE = new Due("RunsTest");

    private final Random random;
    private final EvenCurveKeys keys = new EvenCurveKeys();
    private final Model model = new Model();
    private final Map<String, Integer> answered;

    /** What signatures and proofs have been made lately, as r * 4294967296 + s, and of what. */
    private final List<long[]> made = new ArrayList<>();
    private final List<Long> codes = new ArrayList<>(List.of(8589934593L));

    /** Bytes still to be typed. */
    private final List<Integer> waiting = new ArrayList<>();

    private RunsTest(Random random, Map<String, Integer> answered) {
        this.random = random;
        this.answered = answered;
    }

    public static void main(String[] args) {
        Random random = new Random(20);
        Map<String, Integer> answered = new HashMap<>();
        Method[] methods = EvenCurveKeys.class.getDeclaredMethods();
        List<String> names = new ArrayList<>();
        for (Method method : methods) {
            if (java.lang.reflect.Modifier.isPublic(method.getModifiers())) {
                names.add(method.getName());
            }
        }
        // The order that reflection gives is not fixed; the runs must be.
        names.sort(null);
        for (int run = 0; run < RUNS; run++) {
            new RunsTest(random, answered).run(run, names);
        }
        // Runs in which a call is always refused, or never right, would show little of it.
        for (String name : names) {
            DUE.truth(name + " answers often", true, () -> answered.getOrDefault(name, 0) > 100);
        }
        for (String name : List.of("good", "holds", "right")) {
            DUE.truth(name + " is true at times", true,
                    () -> answered.getOrDefault(name + "=1", 0) > 20);
        }
        DUE.truth("read reads at times", true, () -> answered.getOrDefault("read=form", 0) > 20);
        DUE.end();
    }

    private void run(int run, List<String> names) {
        for (int call = 0; call < CALLS; call++) {
            String name = chance(20) && !waiting.isEmpty() ? "type" : pick(names);
            Object[] arguments = arguments(name);
            String want = outcome(model, Model.class, name, arguments);
            String got = outcome(keys, EvenCurveKeys.class, name, arguments);
            DUE.same("run " + run + ", " + name + Arrays.toString(arguments), got, want);
            if (!want.startsWith("throws.")) {
                learn(name, arguments, Long.parseLong(want));
            }
        }
    }

    private static String outcome(Object on, Class<?> of, String name, Object[] arguments) {
        try {
            for (Method method : of.getDeclaredMethods()) {
                boolean fits = method.getParameterCount() == arguments.length;
                if (method.getName().equals(name) && fits) {
                    Object answer = method.invoke(on, arguments);
                    if (answer instanceof Boolean truth) {
                        return truth ? "1" : "0";
                    }
                    return answer == null ? "0" : answer.toString();
                }
            }
            throw new IllegalStateException(name);
        } catch (InvocationTargetException e) {
            return Due.thrown(e.getCause().getClass());
        } catch (IllegalAccessException e) {
            throw new IllegalStateException(e);
        }
    }

    private void learn(String name, Object[] arguments, long answer) {
        answered.merge(name, 1, Integer::sum);
        answered.merge(name + "=" + (name.equals("read") && answer >= 0 ? "form" : answer), 1,
                Integer::sum);
        if (name.equals("sign") || name.equals("prove")) {
            long kind = name.equals("sign") ? 0 : 1;
            made.add(new long[] {kind, (int) arguments[0], (long) arguments[1], answer});
        } else if (name.equals("even") || name.equals("linear") || name.equals("secret")) {
            codes.add(answer);
        } else if (name.equals("read")) {
            waiting.clear();
            int most = 1 << (4 + random.nextInt(27));
            waiting.addAll(Model.form(random.nextInt(most), random.nextInt(most)));
            if (chance(40)) {
                waiting.set(random.nextInt(waiting.size()), pick(BYTES));
            }
        }
    }

    private Object[] arguments(String name) {
        switch (name) {
            case "secret":
                return new Object[] {slot(), scalar()};
            case "open":
                return new Object[] {slot(), codes.get(random.nextInt(codes.size())) + slip()};
            case "code":
                return new Object[] {slot()};
            case "even":
                return new Object[] {scalar()};
            case "tweak":
                return new Object[] {slot(), scalar(), random.nextBoolean()};
            case "combine":
                return new Object[] {slot(), slot(), slot()};
            case "linear":
                return new Object[] {slot(), scalar(), scalar()};
            case "sign":
                return new Object[] {slot(), message()};
            case "prove":
                return new Object[] {slot(), message(), random.nextLong()};
            case "good":
                return signature(0);
            case "recover":
                Object[] four = signature(0);
                int mark = chance(50) ? model.mark() : random.nextInt(6) - 1;
                return new Object[] {slot(), four[1], four[2], four[3], mark};
            case "holds":
            case "bundle":
                return signature(1);
            case "right":
                return new Object[] {random.nextLong()};
            case "agree":
                return new Object[] {slot(), slot()};
            case "written":
                int most = 1 << random.nextInt(31);
                int r = random.nextInt(most) + slip();
                return new Object[] {r, random.nextInt(most) + slip(), random.nextInt(18) - 2};
            case "type":
                int b = waiting.isEmpty() ? pick(BYTES) : waiting.remove(0);
                return new Object[] {b};
            case "mark":
            case "read":
                return new Object[0];
            default:
                throw new IllegalStateException(name);
        }
    }

    /** A slot, a message and two numbers, most often those of a signature or proof made lately. */
    private Object[] signature(long kind) {
        for (int i = made.size() - 1; i >= 0 && chance(90); i--) {
            long[] one = made.get(i);
            if (one[0] == kind && chance(70)) {
                int s = (int) one[3] + slip();
                s = chance(10) ? N - s : s;
                return new Object[] {(int) one[1], one[2], (int) (one[3] >>> 32) + slip(), s};
            }
        }
        return new Object[] {slot(), message(), scalar(), scalar()};
    }

    private boolean chance(int percent) {
        return random.nextInt(100) < percent;
    }

    private <T> T pick(List<T> of) {
        return of.get(random.nextInt(of.size()));
    }

    private int pick(int[] of) {
        return of[random.nextInt(of.length)];
    }

    private int slot() {
        return chance(95) ? random.nextInt(6) : random.nextInt(9) - 2;
    }

    private int scalar() {
        return chance(75) ? random.nextInt(N) : pick(EDGES);
    }

    private long message() {
        return MESSAGES[random.nextInt(MESSAGES.length)];
    }

    /** What makes a right number wrong now and then. */
    private int slip() {
        return chance(93) ? 0 : random.nextInt(3) - 1;
    }
}
