import java.io.IOException;
import java.nio.file.Files;
import java.nio.file.Path;
import java.util.Map;

/** README.md: its example compiles, and prints what is told there; every call of the face is told of. */
final class ReadmeTest {
    private static final String[] CALLS = {"feed(n, a, b, c, d, e)", "message()", "deal(t, n)", "change(i)", "commit(i)",
        "choose(set)", "share(i)", "other(i)", "right(i)", "gather()", "holds()", "show(what, i)", "output(k)",
        "about(what)"};

    private ReadmeTest() {
    }

    public static void main(String[] args) throws IOException, InterruptedException {
        String text = Files.readString(Path.of("README.md"));
        String printed = Compiled.run(
            Map.of("ThresholdBench", Compiled.program(), "Example", block(text, "java")), "Example");
        Check.due("the example prints", printed, block(text, "text"));
        for (String call : CALLS) {
            Check.due(call + " has its row", text.contains("\n| `" + call + "` |"), true);
        }
        Check.end();
    }

    private static String block(String text, String kind) {
        String head = "```" + kind + "\n";
        int from = text.indexOf(head);
        int to = text.indexOf("```\n", from + head.length());
        return from < 0 || to < 0 ? "" : text.substring(from + head.length(), to);
    }
}
