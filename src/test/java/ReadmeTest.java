import java.io.IOException;
import java.nio.file.Files;
import java.nio.file.Path;
import java.util.List;
import java.util.TreeSet;
import java.util.regex.Matcher;
import java.util.regex.Pattern;
import java.util.stream.Stream;

/**
 * README.md tells each call of the face as the document has it, and its example, a test of its own
 * that .ci/run compiles and runs, is written to build/readme; .ci/run starts in the project's folder.
 */
public final class ReadmeTest {
    private static final Path EXAMPLE = Path.of("build/readme/ReadmeExample.java");
    private static final Pattern BLOCK = Pattern.compile("```java\n(.*?)```", Pattern.DOTALL);
    private static final Pattern ANSWERED = Pattern.compile("(\\w[^;]*\\(.*\\));\\s+// (-?\\d+)\\b.*");
    private static final Pattern REFUSED = Pattern.compile("-(\\d), (BAD|NO|FULL|NONE)\\b");
    private static final Pattern PROMISE = Pattern.compile("`(?:int|long) (\\w+)\\((.*?)\\)`: (.*)");
    private static final Pattern REFUSAL = Pattern.compile("\\b(BAD|NO|FULL|NONE)\\b");
    private static final Check check = new Check();

    public static void main(String[] args) throws IOException {
        String readme = Files.readString(Path.of("README.md"));
        String document = Files.readString(Path.of("../shared/DOC.md"));
        tables(readme, document);
        constants(readme);
        names(readme, Path.of("src/test/java"));
        example(readme, document);
        check.end();
    }

    private static void stands(String what, boolean so) {
        check.due(what + ", 1 if so", so ? 1 : 0, 1);
    }

    /** Each promise's call has a line with the answers below 0 that the promise names. */
    private static void tables(String readme, String document) {
        int calls = 0;
        Matcher promise = PROMISE.matcher(document);
        while (promise.find()) {
            String call = promise.group(1) + "(" + promise.group(2).replaceAll("(int|long) ", "") + ")";
            String start = "| `" + call + "` | ";
            List<String> lines = readme.lines().filter(line -> line.startsWith(start)).toList();
            check.due("README.md: lines of " + call, lines.size(), 1);
            if (lines.size() == 1) {
                String below = lines.get(0).split("\\|")[3];
                stands("README.md: " + call + " with '" + below + "' as in '" + promise.group(3) + "'",
                    refusals(below).equals(refusals(promise.group(3))));
            }
            calls++;
        }
        check.due("promises of a call", calls, 28);
    }

    private static TreeSet<String> refusals(String words) {
        TreeSet<String> all = new TreeSet<>();
        REFUSAL.matcher(words).results().forEach(refusal -> all.add(refusal.group(1)));
        return all;
    }

    private static int constant(String name) {
        return switch (name) {
            case "BAD" -> StageSieve.BAD;
            case "NO" -> StageSieve.NO;
            case "FULL" -> StageSieve.FULL;
            default -> StageSieve.NONE;
        };
    }

    private static void constants(String readme) {
        for (String name : List.of("BAD", "NO", "FULL", "NONE")) {
            stands("README.md: the constant " + name, readme.contains("\n| `" + name + "` | " + constant(name) + " | "));
        }
    }

    private static void names(String readme, Path tests) throws IOException {
        try (Stream<Path> files = Files.list(tests)) {
            for (Path file : files.toList()) {
                String name = file.getFileName().toString().replace(".java", "");
                stands("README.md: the test " + name, readme.contains("`" + name + "`"));
            }
        }
    }

    /** The first block is a method, the second a run of calls, each with its answer behind it. */
    private static void example(String readme, String document) throws IOException {
        List<String> blocks = BLOCK.matcher(readme).results().map(block -> block.group(1)).toList();
        check.due("README.md: blocks of Java", blocks.size(), 2);
        String run = blocks.get(blocks.size() - 1);
        Matcher promise = PROMISE.matcher(document);
        while (promise.find()) {
            stands("README.md: the example calls " + promise.group(1), run.contains("x." + promise.group(1) + "("));
        }
        StringBuilder test = new StringBuilder("/** The example of README.md; ReadmeTest writes it. */\n");
        test.append("public final class ReadmeExample {\n").append(blocks.get(0));
        test.append("public static void main(String[] args) {\nCheck check = new Check();\n");
        run.lines().forEach(line -> test.append(asTest(line)).append('\n'));
        test.append("check.end();\n}\n}\n");
        Files.createDirectories(EXAMPLE.getParent());
        Files.writeString(EXAMPLE, test);
    }

    private static String asTest(String line) {
        if (line.isBlank() || line.equals("StageSieve x = new StageSieve();")) {
            return line;
        }
        Matcher refused = REFUSED.matcher(line);
        if (refused.find()) {
            check.due("README.md: " + line, -Integer.parseInt(refused.group(1)), constant(refused.group(2)));
        }
        Matcher answered = ANSWERED.matcher(line);
        if (!answered.matches()) {
            stands("README.md: a call with its answer: " + line, false);
            return line;
        }
        String call = answered.group(1);
        return "check.due(\"README.md: " + call.replace("\"", "\\\"") + "\", " + call + ", " + answered.group(2) + ");";
    }
}
