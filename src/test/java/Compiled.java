import java.io.IOException;
import java.nio.charset.StandardCharsets;
import java.nio.file.Files;
import java.nio.file.Path;
import java.util.ArrayList;
import java.util.List;
import java.util.Map;
import java.util.stream.Stream;

/** Sources that are compiled in a folder of their own, away from the class that the other tests use. */
final class Compiled {
    private static final Path MAIN = Path.of("src/main/java");
    private static final Path TESTS = Path.of("src/test/java");

    private Compiled() {
    }

    static String program() throws IOException {
        return Files.readString(MAIN.resolve("ThresholdBench.java"));
    }

    static String test(String name) throws IOException {
        return Files.readString(TESTS.resolve(name + ".java"));
    }

    /** What the class prints when it is run, or that javac refuses the sources. */
    static String run(Map<String, String> sources, String name) throws IOException, InterruptedException {
        Path folder = Files.createTempDirectory("compiled");
        try {
            String faults = compile(folder, sources);
            return faults.isEmpty() ? printed(List.of("java", "-cp", folder.toString(), name)) : faults;
        } finally {
            remove(folder);
        }
    }

    private static String compile(Path folder, Map<String, String> sources) throws IOException, InterruptedException {
        List<String> command = new ArrayList<>(List.of("javac", "--release", "17", "-d", folder.toString()));
        for (Map.Entry<String, String> source : sources.entrySet()) {
            Path file = folder.resolve(source.getKey() + ".java");
            Files.writeString(file, source.getValue());
            command.add(file.toString());
        }
        return printed(command);
    }

    /** An exit code that is not 0 is told behind what was printed; what went to stderr goes to ours. */
    private static String printed(List<String> command) throws IOException, InterruptedException {
        Process process = new ProcessBuilder(command).redirectError(ProcessBuilder.Redirect.INHERIT).start();
        String printed = new String(process.getInputStream().readAllBytes(), StandardCharsets.UTF_8);
        int code = process.waitFor();
        return code == 0 ? printed : printed + command.get(0) + " ends with " + code + "\n";
    }

    private static void remove(Path folder) throws IOException {
        try (Stream<Path> files = Files.list(folder)) {
            for (Path file : files.toList()) {
                Files.delete(file);
            }
        }
        Files.delete(folder);
    }
}
