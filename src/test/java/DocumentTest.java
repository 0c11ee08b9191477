import java.io.IOException;
import java.nio.file.Files;
import java.nio.file.Path;
import java.util.List;
import java.util.regex.Matcher;
import java.util.regex.Pattern;

/**
 * Each promise has tests of its bounds, in their order, and what they name as the document's sentence
 * stands in it; the class has the document's face. .ci/run starts in the project's folder.
 */
public final class DocumentTest {
    private static final int PROMISES = 29;
    private static final List<String> TESTS = List.of("HousesBoundsTest", "LeftBoundsTest", "FeltBoundsTest",
        "ManBoundsTest", "NightsBoundsTest");
    private static final Pattern SENTENCE = Pattern.compile("bounds\\.sentence\\((\\d+),(.*?)\\);", Pattern.DOTALL);
    private static final Pattern FACE = Pattern.compile("```java\n(public final class .*?)\n}\n```", Pattern.DOTALL);
    private static final Pattern QUOTED = Pattern.compile("\"([^\"]*)\"");
    private static final Check check = new Check();

    public static void main(String[] args) throws IOException {
        String told = Files.readString(Path.of("../shared/DOC.md"));
        face(told, Files.readString(Path.of("src/main/java/StageSieve.java")).lines().toList());
        String document = told.replaceAll("\\s+", " ");
        int before = 1;
        int[] sentences = new int[PROMISES + 1];
        for (String test : TESTS) {
            Matcher sentence = SENTENCE.matcher(Files.readString(Path.of("src/test/java/" + test + ".java")));
            while (sentence.find()) {
                int promise = Integer.parseInt(sentence.group(1));
                check.due(test + ": promise " + promise + " behind " + before + " is in their order", promise >= before ? 1 : 0, 1);
                before = promise;
                sentences[promise]++;
                quotes(document, test, sentence.group(2));
            }
        }
        for (int promise = 1; promise <= PROMISES; promise++) {
            check.due("promise " + promise + " has a sentence", Math.min(1, sentences[promise]), 1);
        }
        check.end();
    }

    /** What the class begins with and its public members, in the document's order. */
    private static void face(String document, List<String> source) {
        Matcher block = FACE.matcher(document);
        check.due("faces in the document", block.find() ? 1 : 0, 1);
        List<String> told = block.group(1).lines().map(line -> line.replaceAll("\\);$", ") {")).toList();
        List<String> has = source.stream().filter(line -> line.matches("( {4})?public .*")).toList();
        check.due("lines of the face", has.size(), told.size());
        for (int i = 0; i < Math.min(has.size(), told.size()); i++) {
            check.due("the face: '" + has.get(i) + "' for '" + told.get(i) + "'", has.get(i).equals(told.get(i)) ? 1 : 0, 1);
        }
    }

    private static void quotes(String document, String test, String words) {
        Matcher quoted = QUOTED.matcher(words);
        while (quoted.find()) {
            check.due(test + ": the document's '" + quoted.group(1) + "'", document.contains(quoted.group(1)) ? 1 : 0, 1);
        }
    }
}
