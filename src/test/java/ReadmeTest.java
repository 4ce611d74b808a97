import java.io.IOException;
import java.nio.file.Files;
import java.nio.file.Path;
import java.util.List;
import java.util.regex.Matcher;
import java.util.regex.Pattern;
import java.util.stream.Stream;

/** README.md tells how to use the class, in the document's words, and how to run its tests. */
public final class ReadmeTest {
    private static final Checks CHECKS = new Checks();
    private static final Path README = Path.of("README.md");
    private static final Path DOCUMENT = Path.of("../shared/DOC.md");
    private static final int PROMISES = 13;

    /** What the document says of all calls, ahead of its promises. */
    private static final String[] OF_ALL_CALLS = {
        "An object is used for at most 512 calls after it has been made; what later calls answer is"
            + " free.",
        "Of several exceptions that apply the first one listed is thrown; what throws changes"
            + " nothing. NoSuchElementException: there is no such paragraph, sign, line, page."
            + " IllegalArgumentException: as said, a number is out of its range."
            + " IllegalStateException: there would be too many.",
        "lay() lays out; what is told of lines, pages and places is of the latest lay(), until a"
            + " paragraph, sign, shape, stop or page is changed: then nothing is laid out.",
    };

    public static void main(String[] args) throws IOException {
        CHECKS.due("README.md is there", 1, Files.isRegularFile(README) ? 1 : 0);
        if (Files.isRegularFile(README)) {
            String readme = Files.readString(README);
            eachCallIsTold(readme);
            whatHoldsForAllCallsIsTold(readme);
            eachTestIsTold(readme);
            theExampleAnswersAsItSays(readme);
        }
        CHECKS.close("ReadmeTest");
    }

    private static void eachCallIsTold(String readme) throws IOException {
        String told = section(readme, "How to use the class");
        Matcher promise = Pattern.compile("(?m)^## Promise \\d+: .*\\R\\R(.*)$")
            .matcher(Files.readString(DOCUMENT));
        int promises = 0;
        while (promise.find()) {
            promises++;
            isTold(told, promise.group(1));
        }
        CHECKS.due("promises of the document", PROMISES, promises);
    }

    private static void whatHoldsForAllCallsIsTold(String readme) throws IOException {
        String document = onOneLine(Files.readString(DOCUMENT));
        String told = section(readme, "How to use the class");
        for (String sentence : OF_ALL_CALLS) {
            CHECKS.due("the document says: " + sentence, 1, document.contains(sentence) ? 1 : 0);
            isTold(told, sentence);
        }
    }

    private static void eachTestIsTold(String readme) throws IOException {
        String told = section(readme, "How to run its tests");
        isTold(told, ".ci/run");
        isTold(told, "../shared/tests");
        try (Stream<Path> files = Files.list(Path.of("src/test/java"))) {
            for (Path file : files.sorted().toList()) {
                String name = file.getFileName().toString();
                if (name.endsWith("Test.java")) {
                    isTold(told, "| `" + name.substring(0, name.indexOf('.')) + "` |");
                }
            }
        }
    }

    /** A statement that keeps an answer is followed by a comment that begins with that answer. */
    private static void theExampleAnswersAsItSays(String readme) throws IOException {
        Matcher block = Pattern.compile("(?s)```java\\R(.*?)```").matcher(readme);
        CHECKS.due("there is an example", 1, block.find() ? 1 : 0);
        Pattern kept = Pattern.compile("(?m)^(int (\\w+) = .*;) *// (-?\\d+)\\b.*$");
        CHECKS.due("answers of the example", 1, kept.matcher(block.group(1)).find() ? 1 : 0);
        String body = kept.matcher(block.group(1))
            .replaceAll("$1 System.out.println(\"$2 \" + $2 + \" $3\");");
        for (String line : outputOf("ReadmeExample", body)) {
            String[] answer = line.split(" ");
            CHECKS.due("README.md's example: " + answer[0], answer[2], answer[1]);
        }
    }

    /** Runs statements with the java command, which compiles a source file by itself. */
    private static List<String> outputOf(String name, String body) throws IOException {
        Path source = Files.createTempDirectory("readme").resolve(name + ".java");
        Files.writeString(source, "public final class " + name
            + " { public static void main(String[] args) {\n" + body + "} }\n");
        Process java = new ProcessBuilder("java", "-cp", System.getProperty("java.class.path"),
            source.toString()).redirectError(ProcessBuilder.Redirect.INHERIT).start();
        String output = new String(java.getInputStream().readAllBytes());
        CHECKS.due("java of README.md's example", 0, java.onExit().join().exitValue());
        Files.delete(source);
        Files.delete(source.getParent());
        return output.lines().toList();
    }

    private static void isTold(String told, String words) {
        CHECKS.due("README.md tells: " + words, 1, told.contains(words) ? 1 : 0);
    }

    /** What stands below a heading, up to the next one of its rank. */
    private static String section(String readme, String heading) {
        Matcher found = Pattern.compile("(?ms)^## " + heading + "$(.*?)(?=^## |\\z)").matcher(readme);
        return found.find() ? onOneLine(found.group(1)) : "";
    }

    private static String onOneLine(String text) {
        return text.replaceAll("\\s+", " ");
    }
}
