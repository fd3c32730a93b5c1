import java.io.IOException;
import java.nio.file.Files;
import java.nio.file.Path;
import java.util.ArrayList;
import java.util.List;
import java.util.regex.Matcher;
import java.util.regex.Pattern;

/**
 * Writes the examples of README.md, from the first to the last, as one program that compares each
 * answer with what stands behind //, up to a colon. Used by .ci/run, which then runs that program.
 */
public final class ReadmeExamples {
    private static final Pattern BLOCK = Pattern.compile("(?ms)^```java\n(.*?)^```$");
    private static final Pattern CALL = Pattern.compile("(.*\\.\\w+\\(.*\\)); +// ([^:]+)(:.*)?");
    private static final String THROWS = "throws ";

    private ReadmeExamples() {
    }

    public static void main(String[] args) throws IOException {
        Path page = Path.of(args[0]);
        Path program = Path.of(args[1]);
        Files.writeString(program, program(Files.readString(page)));
    }

    static List<String> blocks(String page) {
        List<String> blocks = new ArrayList<>();
        Matcher found = BLOCK.matcher(page);
        while (found.find()) {
            blocks.add(found.group(1));
        }
        return blocks;
    }

    /** A line with a call and what is due of it; null of another line. */
    static String[] callAndDue(String line) {
        Matcher found = CALL.matcher(line);
        return found.matches() ? new String[] {found.group(1), found.group(2)} : null;
    }

    /** The exception that is due; null if an answer is. */
    static String exceptionOf(String due) {
        return due.startsWith(THROWS) ? due.substring(THROWS.length()) : null;
    }

    private static String program(String page) {
        StringBuilder methods = new StringBuilder();
        StringBuilder run = new StringBuilder();
        for (String block : blocks(page)) {
            if (block.startsWith("static ")) {
                methods.append(block);
                continue;
            }
            for (String line : block.split("\n")) {
                run.append(checked(line)).append('\n');
            }
        }
        return "class Examples {\n" + methods + "public static void main(String[] args) {\n" + run
                + "Trial.end();\n}\n}\n";
    }

    private static String checked(String line) {
        String[] told = callAndDue(line);
        if (told == null) {
            return line;
        }
        String name = '"' + told[0].replace("\"", "\\\"") + '"';
        String exception = exceptionOf(told[1]);
        if (exception == null) {
            return "Trial.check(" + told[1] + ", " + told[0] + ", " + name + ");";
        }
        return "try { Trial.check(\"" + told[1] + "\", " + told[0] + ", " + name + "); } catch ("
                + exception + " thrown) { Trial.check(" + exception
                + ".class, thrown.getClass(), " + name + "); }";
    }
}
