import java.io.IOException;
import java.nio.file.Files;
import java.nio.file.Path;
import java.util.ArrayList;
import java.util.List;

/** README.md's example: that each of its lines stands here, and answers what it says. */
public final class ReadmeTest {
    private static final Due DUE = new Due("ReadmeTest");

    public static void main(String[] args) throws IOException {
        linesStandHere();
        example();
        DUE.end();
    }

    private static void linesStandHere() throws IOException {
        List<String> here = lines(Files.readString(Path.of("src/test/java/ReadmeTest.java")));
        String readme = Files.readString(Path.of("README.md"));
        String start = "```java\n";
        int from = readme.indexOf(start) + start.length();
        for (String line : lines(readme.substring(from, readme.indexOf("```", from)))) {
            DUE.truth("in the test: " + line, true, () -> here.contains(line));
        }
    }

    /** Without what stands around a line, and behind it as a comment. */
    private static List<String> lines(String text) {
        List<String> lines = new ArrayList<>();
        text.lines().map(line -> line.replaceAll("//.*", "").trim()).forEach(lines::add);
        return lines;
    }

    private static void example() {
        EvenCurveKeys keys = new EvenCurveKeys();
        long code = keys.secret(0, 5);
        keys.open(1, code);
        DUE.number("code of slot 1", code, () -> keys.code(1));
        DUE.noSecret("sign of slot 1", () -> keys.sign(1, 7));

        long signature = keys.sign(0, 7);
        int r = (int) (signature >>> 32);
        int s = (int) signature;
        DUE.number("r and s", signature, () -> r * 4294967296L + s);
        boolean good = keys.good(1, 7, r, s);
        DUE.truth("good", true, () -> good);
        int mark = keys.mark();
        long found = keys.recover(2, 7, r, s, mark);
        DUE.number("found", code, () -> found);
        DUE.number("code of slot 2", code, () -> keys.code(2));

        long proof = keys.prove(0, 7, 1);
        int rx = (int) (proof >>> 32);
        boolean holds = keys.holds(1, 7, rx, (int) proof);
        DUE.truth("holds", true, () -> holds);
        int items = keys.bundle(1, 7, rx, (int) proof);
        DUE.number("items", 1, () -> items);
        boolean right = keys.right(99);
        DUE.truth("right", true, () -> right);

        keys.secret(3, 11);
        boolean agreed = keys.agree(0, 3) == keys.agree(3, 0);
        DUE.truth("agreed", true, () -> agreed);
        long sum = keys.combine(4, 0, 3);
        long moved = keys.tweak(3, 5, false);
        DUE.number("sum", Model.codeOf(Model.multipleOfG(16)), () -> sum);
        DUE.number("moved", sum, () -> moved);

        int length = keys.written(r, s, -1);
        for (int i = 0; i < length; i++) {
            keys.type(keys.written(r, s, i));
        }
        long read = keys.read();
        DUE.number("read", signature, () -> read);
        DUE.number("read again", EvenCurveKeys.WRONG, keys::read);
    }
}
