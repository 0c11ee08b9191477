import java.io.IOException;
import java.nio.file.Files;
import java.nio.file.Path;
import java.util.List;

/** What of LANGUAGE.md can be read off the text of the class; .ci/run starts in the project's folder. */
public final class LanguageTest {
    private static final Check check = new Check();

    public static void main(String[] args) throws IOException {
        String source = Files.readString(Path.of("src/main/java/StageSieve.java"));
        check.due("signs above 126", source.chars().filter(sign -> sign > 126).count(), 0);
        String[] forbidden = {"import ", "package ", "->", "::", "catch", "throw", "try {", "synchronized", "assert", "Exact(", "System.",
            "double", "float", "static {", "protected", "instanceof", "new ArrayList"};
        for (String word : forbidden) {
            check.due("places of " + word, source.indexOf(word), -1);
        }
        List<String> lines = source.lines().toList();
        check.due("public members", lines.stream().filter(line -> line.contains("public ")).count(), 31);
        check.due("classes", lines.stream().filter(line -> line.matches(".*\\bclass [A-Z].*\\{")).count(), 12);
        check.due("classes inside that are not static", lines.stream()
            .filter(line -> line.matches(" +.*\\bclass [A-Z].*\\{") && !line.contains("private static final class")).count(), 0);
        methodLengths(lines);
        check.end();
    }

    private static void methodLengths(List<String> lines) {
        int start = -1;
        for (int i = 0; i < lines.size(); i++) {
            String line = lines.get(i);
            if (line.matches(" {4,8}[a-z][^;=]*\\) \\{")) {
                start = i;
            } else if (start >= 0 && line.matches(" {4,8}\\}")) {
                check.due("a method of over 60 lines from line " + start, Math.max(60, i - start + 1), 60);
                start = -1;
            }
        }
    }
}
