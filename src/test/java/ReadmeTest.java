import java.io.IOException;
import java.nio.file.Files;
import java.nio.file.Path;
import java.util.List;
import java.util.function.ToLongFunction;

/** README.md: each line of its example answers what is written beside it, and it speaks of every call of the face. */
public final class ReadmeTest {
    private record Line(String code, ToLongFunction<ExactReader> call) {
    }

    private static final List<Line> EXAMPLE = List.of(
        new Line("reader.write(0x312E30L);", x -> x.write(0x312E30L)),
        new Line("reader.kind();", x -> x.kind()),
        new Line("reader.fault();", x -> x.fault()),
        new Line("reader.bits();", x -> x.bits()),
        new Line("reader.floatBits();", x -> x.floatBits()),
        new Line("reader.side(false);", x -> x.side(false)),
        new Line("reader.compare(0x3FB999999999999AL);", x -> x.compare(0x3FB999999999999AL)),
        new Line("reader.repeat('0', 1000);", x -> x.repeat('0', 1000)),
        new Line("reader.cut(2);", x -> x.cut(2)),
        new Line("reader.repeat('x', 1);", x -> x.repeat('x', 1)),
        new Line("reader.kind();", x -> x.kind()),
        new Line("reader.fault();", x -> x.fault()),
        new Line("reader.wipe();", x -> x.wipe()),
        new Line("reader.fault();", x -> x.fault()));
    private static final List<String> CALLS = List.of("write(characters)", "repeat(c, n)", "cut(n)", "wipe()", "kind()",
        "fault()", "bits()", "floatBits()", "side(asFloat)", "compare(bits)");

    public static void main(String[] args) throws IOException {
        Check check = new Check();
        List<String> readme = Files.readAllLines(Path.of("README.md"));
        List<String> written = readme.stream().filter(line -> line.matches("reader\\..*//.*")).toList();
        check.same("the number of lines of the example", written.size(), EXAMPLE.size());
        ExactReader reader = new ExactReader();
        for (int i = 0; i < Math.min(written.size(), EXAMPLE.size()); i++) {
            Line line = EXAMPLE.get(i);
            if (!written.get(i).startsWith(line.code + " ")) {
                check.fail("README.md has '" + written.get(i) + "' where the test has '" + line.code + "'");
            }
            check.same(written.get(i), line.call.applyAsLong(reader), answerIn(written.get(i)));
        }
        for (String call : CALLS) {
            if (readme.stream().noneMatch(line -> line.startsWith("| `" + call + "` |"))) {
                check.fail("README.md does not tell what " + call + " does");
            }
        }
        check.end();
    }

    /** The number with which the comment begins. */
    private static long answerIn(String line) {
        String comment = line.substring(line.indexOf("// ") + 3);
        return Long.decode(comment.split("[:,]")[0].replace("L", ""));
    }
}
