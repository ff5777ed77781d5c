import java.lang.reflect.Constructor;
import java.lang.reflect.Field;
import java.lang.reflect.Member;
import java.lang.reflect.Method;
import java.lang.reflect.Modifier;
import java.util.ArrayList;
import java.util.Arrays;
import java.util.List;
import java.util.Set;
import java.util.TreeSet;

/** The class's face: what the document says, and rules 1 and 5 of LANGUAGE.md. */
public final class FaceTest {
    private static final String INDEX = "IndexOutOfBoundsException";
    private static final String EMPTY = "NoSuchElementException";
    private static final String ARGUMENT = "IllegalArgumentException";
    private static final String STATE = "IllegalStateException";
    private static final String NOT_DONE = "UnsupportedOperationException";

    private static final Set<String> FACE = new TreeSet<>(List.of(
            "long secret(int, int) " + List.of(INDEX, ARGUMENT),
            "void open(int, long) " + List.of(INDEX, ARGUMENT),
            "long code(int) " + List.of(INDEX),
            "long even(int) " + List.of(),
            "long tweak(int, int, boolean) " + List.of(INDEX, EMPTY, ARGUMENT),
            "long combine(int, int, int) " + List.of(INDEX, EMPTY, ARGUMENT),
            "long linear(int, int, int) " + List.of(INDEX, EMPTY, ARGUMENT),
            "long sign(int, long) " + List.of(INDEX, STATE, NOT_DONE),
            "int mark() " + List.of(),
            "boolean good(int, long, int, int) " + List.of(INDEX, EMPTY),
            "long recover(int, long, int, int, int) " + List.of(INDEX, ARGUMENT),
            "long prove(int, long, long) " + List.of(INDEX, STATE, NOT_DONE),
            "boolean holds(int, long, int, int) " + List.of(INDEX, EMPTY),
            "int bundle(int, long, int, int) " + List.of(INDEX, EMPTY, NOT_DONE),
            "boolean right(long) " + List.of(),
            "long agree(int, int) " + List.of(INDEX, STATE, EMPTY),
            "int written(int, int, int) " + List.of(ARGUMENT),
            "int type(int) " + List.of(ARGUMENT, NOT_DONE),
            "long read() " + List.of()));

    private static final Due DUE = new Due("FaceTest");

    public static void main(String[] args) throws NoSuchFieldException {
        Class<?> type = EvenCurveKeys.class;
        DUE.same("the class", Modifier.toString(type.getModifiers()), "public final");
        methods(type);
        constructors(type);
        fields(type);
        classes(type);
        DUE.end();
    }

    private static boolean isPrivate(Member member) {
        return Modifier.isPrivate(member.getModifiers());
    }

    private static void methods(Class<?> type) {
        Set<String> found = new TreeSet<>();
        Set<String> open = new TreeSet<>();
        Set<String> hidden = new TreeSet<>();
        for (Method method : type.getDeclaredMethods()) {
            (isPrivate(method) ? hidden : open).add(method.getName());
            if (!isPrivate(method)) {
                found.add(described(method));
                String modifiers = Modifier.toString(method.getModifiers());
                DUE.same(method.getName() + "'s modifiers", modifiers, "public");
            }
        }
        DUE.same("the methods", found.toString(), FACE.toString());
        for (Class<?> inside : type.getDeclaredClasses()) {
            Arrays.asList(inside.getDeclaredMethods()).forEach(own -> hidden.add(own.getName()));
        }
        hidden.retainAll(open);
        DUE.same("private methods with a public one's name", hidden.toString(), "[]");
    }

    private static String described(Method method) {
        String parameters = names(method.getParameterTypes()).toString();
        String inner = parameters.substring(1, parameters.length() - 1);
        return method.getReturnType().getSimpleName() + " " + method.getName() + "(" + inner + ") "
                + names(method.getExceptionTypes());
    }

    private static List<String> names(Class<?>[] types) {
        List<String> names = new ArrayList<>();
        Arrays.asList(types).forEach(type -> names.add(type.getSimpleName()));
        return names;
    }

    private static void constructors(Class<?> type) {
        Constructor<?>[] all = type.getDeclaredConstructors();
        DUE.same("the constructors", Arrays.toString(all), "[public EvenCurveKeys()]");
    }

    private static void fields(Class<?> type) throws NoSuchFieldException {
        Field wrong = type.getDeclaredField("WRONG");
        DUE.same("WRONG", wrong.toString(), "public static final int EvenCurveKeys.WRONG");
        for (Field field : type.getDeclaredFields()) {
            boolean fits = isPrivate(field) || field.equals(wrong);
            DUE.truth(field + " is private", true, () -> fits);
            staticIsFinal(field);
        }
    }

    private static void staticIsFinal(Field field) {
        int modifiers = field.getModifiers();
        boolean fits = !Modifier.isStatic(modifiers) || Modifier.isFinal(modifiers);
        DUE.truth(field + " is final if it is static", true, () -> fits);
    }

    private static void classes(Class<?> type) {
        for (Class<?> inside : type.getDeclaredClasses()) {
            int modifiers = inside.getModifiers();
            boolean open = Modifier.isPublic(modifiers) || Modifier.isProtected(modifiers);
            DUE.truth(inside + " is static, and not open", true,
                    () -> Modifier.isStatic(modifiers) && !open);
            Arrays.asList(inside.getDeclaredFields()).forEach(FaceTest::staticIsFinal);
        }
    }
}
