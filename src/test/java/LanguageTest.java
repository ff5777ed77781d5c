import java.io.IOException;
import java.lang.reflect.Constructor;
import java.lang.reflect.Field;
import java.lang.reflect.Method;
import java.lang.reflect.Modifier;
import java.nio.file.Files;
import java.nio.file.Path;
import java.util.ArrayList;
import java.util.Arrays;
import java.util.List;
import java.util.Map;
import java.util.Set;
import java.util.TreeMap;
import java.util.TreeSet;
import java.util.regex.MatchResult;
import java.util.regex.Matcher;
import java.util.regex.Pattern;

/** Those rules of LANGUAGE.md that the source and the class tell by themselves; see FaceTest. */
public final class LanguageTest {
    private static final Path SOURCE = Path.of("src/main/java/EvenCurveKeys.java");

    /** What rules 2, 6 and 13 leave out, or what the class does without. */
    private static final List<String> NO_WORDS = List.of(
            "try", "catch", "finally", "synchronized", "assert", "volatile", "native",
            "double", "float", "Thread", "System", "Random", "Math", "Object", "var");

    private static final Set<String> EXCEPTIONS = Set.of(
            "IllegalStateException", "IllegalArgumentException", "IndexOutOfBoundsException",
            "UnsupportedOperationException", "NoSuchElementException");

    private static final Set<Class<?>> CONSTANTS = Set.of(
            int.class, long.class, boolean.class, char.class, String.class);

    private static final Due DUE = new Due("LanguageTest");

    public static void main(String[] args) throws IOException {
        String code = withoutComments(Files.readString(SOURCE));
        words(code);
        imports(code);
        exceptions(code);
        List<String> methods = methods(code);
        lengths(methods);
        depths(methods);
        List<Class<?>> classes = new ArrayList<>(List.of(EvenCurveKeys.class));
        classes.addAll(Arrays.asList(EvenCurveKeys.class.getDeclaredClasses()));
        atMost("classes", classes.size(), 12);
        // The constructor of the face is the one that is written out.
        int written = 1;
        for (Class<?> type : classes) {
            fields(type);
            parameters(type);
            written += type.getDeclaredMethods().length;
        }
        DUE.number("methods found in the source", written, methods::size);
        DUE.end();
    }

    private static String withoutComments(String source) {
        return source.replaceAll("(?s)/\\*.*?\\*/", "").replaceAll("//[^\n]*", "");
    }

    private static List<String> found(String regex, String code) {
        List<String> all = new ArrayList<>();
        Matcher matcher = Pattern.compile(regex).matcher(code);
        while (matcher.find()) {
            all.add(matcher.group(matcher.groupCount()));
        }
        return all;
    }

    private static void none(String what, List<String> all) {
        DUE.same(what, all.toString(), "[]");
    }

    private static void atMost(String what, int count, int most) {
        DUE.truth(what + ", " + count, true, () -> count <= most);
    }

    /** Rules 2, 3, 5, 6 and 13. */
    private static void words(String code) {
        for (String word : NO_WORDS) {
            none("the word " + word, found("\\b" + word + "\\b", code));
        }
        none("lambdas and method references", found("->|::", code));
        none("static blocks", found("\\bstatic\\s*\\{", code));
        none("other lines than of ASCII", found("[^\\x00-\\x7f]", code));
    }

    /** Rule 4: the one name that is asked of the library is an exception's. */
    private static void imports(String code) {
        none("a package", found("(?m)^package\\b", code));
        DUE.same("what is imported", found("import ([^;]*);", code).toString(),
                "[java.util.NoSuchElementException]");
        DUE.same("names of the library", found("\\bjavax?\\.[\\w.]*", code).toString(),
                "[java.util.NoSuchElementException]");
    }

    /** Rule 6: what is thrown is made there, without a text that is put together. */
    private static void exceptions(String code) {
        for (String thrown : found("\\bthrow\\b([^;]*);", code)) {
            String name = thrown.trim().replaceAll("^new (\\w+)\\((\"[^\"]*\")?\\)$", "$1");
            DUE.truth("thrown:" + thrown, true, () -> EXCEPTIONS.contains(name));
        }
    }

    /** The texts of the methods: from a line that opens one to the brace in its own column. */
    private static List<String> methods(String code) {
        String method = "(?m)^( +)[\\w \\[\\]]+\\([^;{}=]*\\{\\n(?s:.*?)^\\1\\}";
        return Pattern.compile(method).matcher(code).results().map(MatchResult::group).toList();
    }

    private static String nameOf(String method) {
        return found("(\\w+)\\(", method).get(0);
    }

    /** Rule 11. */
    private static void lengths(List<String> methods) {
        for (String method : methods) {
            atMost("lines of " + nameOf(method), (int) method.lines().count(), 60);
        }
    }

    /** Rules 8 and 11, methods of one name taken for one, which makes no depth less. */
    private static void depths(List<String> methods) {
        Map<String, Set<String>> calls = new TreeMap<>();
        for (String method : methods) {
            String body = method.substring(method.indexOf('{'));
            calls.computeIfAbsent(nameOf(method), name -> new TreeSet<>())
                    .addAll(found("(\\w+)\\(", body));
        }
        for (String name : calls.keySet()) {
            atMost("calls open at once from " + name, depth(name, calls, 1), 8);
        }
    }

    /** Ends, with more than is allowed, where methods call one another in a ring. */
    private static int depth(String name, Map<String, Set<String>> calls, int level) {
        int deepest = level;
        for (String called : calls.get(name)) {
            if (calls.containsKey(called) && level <= 8) {
                deepest = Math.max(deepest, depth(called, calls, level + 1));
            }
        }
        return deepest;
    }

    /** Rules 5 and 11. */
    private static void fields(Class<?> type) {
        int own = 0;
        for (Field field : type.getDeclaredFields()) {
            if (Modifier.isStatic(field.getModifiers())) {
                DUE.truth(field + " is a constant", true,
                        () -> CONSTANTS.contains(field.getType()));
            } else {
                own++;
            }
        }
        atMost("fields of " + type, own, 20);
    }

    /** Rule 11. */
    private static void parameters(Class<?> type) {
        for (Method method : type.getDeclaredMethods()) {
            atMost("parameters of " + method, method.getParameterCount(), 7);
        }
        for (Constructor<?> constructor : type.getDeclaredConstructors()) {
            atMost("parameters of " + constructor, constructor.getParameterCount(), 7);
        }
    }
}
