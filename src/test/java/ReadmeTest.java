import java.io.IOException;
import java.nio.file.Files;
import java.nio.file.Path;
import java.util.regex.Matcher;
import java.util.regex.Pattern;

/**
 * README.md has a chapter for each method of the document's face: its head, each exception that it
 * throws, and examples of an answer and of each exception. What the examples say is compared by
 * the program that ReadmeExamples writes.
 */
public final class ReadmeTest {
    private static final Path DOCUMENT = Path.of("..", "shared", "DOC.md");
    private static final Pattern METHOD =
            Pattern.compile("(?m)^    public ((?:int|boolean) (\\w+)\\(.*\\).*);$");
    private static final int METHODS = 25;

    private final String chapter;
    private final String name;

    private ReadmeTest(String page, String name) {
        this.name = name;
        chapter = chapter(page, name);
    }

    public static void main(String[] args) throws IOException {
        String page = Files.readString(Path.of("README.md"));
        Matcher method = METHOD.matcher(Files.readString(DOCUMENT));
        int found = 0;
        while (method.find()) {
            new ReadmeTest(page, method.group(2)).tellsOf(method.group(1));
            found++;
        }
        Trial.check(METHODS, found, "methods of the face in " + DOCUMENT);
        Trial.check(true, page.contains("\n`ReversalCourt()`\n"), "README.md has the constructor");
        tests(page);
        Trial.end();
    }

    private static String chapter(String page, String name) {
        Matcher found = Pattern.compile("(?ms)^### " + name + "$(.*?)(?=^##|\\z)").matcher(page);
        return found.find() ? found.group(1) : "";
    }

    private void tellsOf(String head) {
        Trial.check(true, chapter.startsWith("\n\n`" + head + "`\n"), "README.md has " + head);
        Trial.check(true, hasExample(null), "README.md has an answer of " + name);
        int clause = head.indexOf(" throws ");
        String[] thrown = clause < 0 ? new String[0]
                : head.substring(clause + " throws ".length()).split(", ");
        for (String exception : thrown) {
            Trial.check(true, chapter.contains("\n- throws `" + exception + "` if "),
                    "README.md says when " + name + " throws " + exception);
            Trial.check(true, hasExample(exception),
                    "README.md has an example of " + name + " that throws " + exception);
        }
        Trial.check(thrown.length, chapter.split("\n- throws ", -1).length - 1,
                "exceptions that README.md tells of " + name);
    }

    /** Whether an example calls the method and gets the exception, or an answer for null. */
    private boolean hasExample(String exception) {
        for (String block : ReadmeExamples.blocks(chapter)) {
            for (String line : block.split("\n")) {
                String[] told = ReadmeExamples.callAndDue(line);
                if (told != null && told[0].contains("." + name + "(")
                        && String.valueOf(exception)
                                .equals(String.valueOf(ReadmeExamples.exceptionOf(told[1])))) {
                    return true;
                }
            }
        }
        return false;
    }

    private static void tests(String page) throws IOException {
        try (var files = Files.list(Path.of("src", "test", "java"))) {
            for (Path file : files.sorted().toList()) {
                String test = file.getFileName().toString().replace(".java", "");
                if (test.endsWith("Test")) {
                    Trial.check(true, page.contains("\n| `" + test + "` | "),
                            "README.md says what " + test + " holds to");
                }
            }
        }
    }
}
