import java.io.IOException;
import java.util.LinkedHashMap;
import java.util.Map;

/**
 * Sentences that no run of calls can meet as long as H1 to H3 can't be aimed. Here they can, in a copy of the class
 * that differs by one line: H1 and H2 are 1, and H3 of 32 bytes and the secret is what the 32 bytes say. WoundedRuns
 * has the calls.
 */
final class WoundedTest {
    private static final String LINE = "            scalars.readExpanded(out, expanded);\n";
    private static final String WOUND = """
            Words.setSmall(out, 1);
            if (tag.equals("nonce")) {
                Words.read(out, input, 0);
                if (!Scalars.isScalar(out)) {
                    Words.subtract(out, out, Scalars.Q);
                }
            }
        """;
    private static final String[] HELPERS = {"Check", "Bench", "Runs", "Reference", "WoundedRuns"};

    private WoundedTest() {
    }

    public static void main(String[] args) throws IOException, InterruptedException {
        String program = Compiled.program();
        int at = program.indexOf(LINE);
        Check.due("the line to be changed is there once", at >= 0 && at == program.lastIndexOf(LINE), true);
        if (Check.allRight()) {
            Map<String, String> sources = new LinkedHashMap<>();
            sources.put("ThresholdBench", program.replace(LINE, WOUND));
            for (String name : HELPERS) {
                sources.put(name, Compiled.test(name));
            }
            String printed = Compiled.run(sources, "WoundedRuns");
            System.out.print(printed);
            Check.due("the runs end well", printed.endsWith(" 0 not as due\n"), true);
        }
        Check.end();
    }
}
