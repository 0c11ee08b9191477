import java.io.IOException;
import java.nio.file.Files;
import java.nio.file.Path;
import java.util.List;
import java.util.regex.Matcher;
import java.util.regex.Pattern;

/** What of LANGUAGE.md can be read off the text of the class; .ci/run starts in the project's folder. */
public final class LanguageTest {
    private static final Pattern PUBLIC = Pattern.compile("\n    public (?:int|long) (\\w+)\\(");
    private static final Pattern METHOD =
        Pattern.compile(" {4,8}(?!public|return|else|new)(?:private |static |final )*[\\w\\[\\]]+ (\\w+)\\([^;=]*\\) \\{");
    private static final Check check = new Check();

    public static void main(String[] args) throws IOException {
        String source = Files.readString(Path.of("src/main/java/StageSieve.java"));
        check.due("signs above 126", source.chars().filter(sign -> sign > 126).count(), 0);
        String[] forbidden = {"import ", "package ", "->", "::", "catch", "throw", "try {", "synchronized", "assert", "Exact(", "System.",
            "double", "float", "static {", "protected", "instanceof", "new ArrayList"};
        for (String word : forbidden) {
            check.due("places of " + word, source.indexOf(word), -1);
        }
        List<String> lines = source.lines().toList();
        check.due("public members", lines.stream().filter(line -> line.contains("public ")).count(), 31);
        check.due("classes", lines.stream().filter(line -> line.matches(".*\\bclass [A-Z].*\\{")).count(), 12);
        check.due("classes inside that are not static", lines.stream()
            .filter(line -> line.matches(" +.*\\bclass [A-Z].*\\{") && !line.contains("private static final class")).count(), 0);
        methodLengths(lines);
        names(source, lines);
        check.end();
    }

    /** Rule 1: "No private method bears the name of a public one." Rule 11: "at most seven parameters". */
    private static void names(String source, List<String> lines) {
        List<String> face = PUBLIC.matcher(source).results().map(method -> method.group(1)).toList();
        check.due("public methods", face.size(), 28);
        int methods = 0;
        for (String line : lines) {
            Matcher method = METHOD.matcher(line);
            if (method.matches()) {
                methods++;
                check.due("a method of a public one's name: " + line, face.contains(method.group(1)) ? 1 : 0, 0);
            }
            if (line.matches(" {4,8}[a-z][^;=]*\\) \\{")) {
                check.due("parameters above seven: " + line, Math.max(7, line.split(",").length), 7);
            }
        }
        check.due("methods that are not public were looked at", Math.min(50, methods), 50);
    }

    private static void methodLengths(List<String> lines) {
        int start = -1;
        for (int i = 0; i < lines.size(); i++) {
            String line = lines.get(i);
            if (line.matches(" {4,8}[a-z][^;=]*\\) \\{")) {
                start = i;
            } else if (start >= 0 && line.matches(" {4,8}\\}")) {
                check.due("a method of over 60 lines from line " + start, Math.max(60, i - start + 1), 60);
                start = -1;
            }
        }
    }
}
