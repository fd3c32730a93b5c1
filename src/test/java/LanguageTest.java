import java.io.IOException;
import java.lang.reflect.Field;
import java.lang.reflect.Method;
import java.lang.reflect.Modifier;
import java.nio.charset.StandardCharsets;
import java.nio.file.Files;
import java.nio.file.Path;
import java.util.ArrayList;
import java.util.List;
import java.util.Set;
import java.util.TreeSet;

/** The rules of LANGUAGE.md that can be seen from the text and the shape of the program. */
public final class LanguageTest {
    private static final Path FOLDER = Path.of("src", "main", "java");
    private static final int LONGEST_METHOD = 60;
    private static final int MOST_CLASSES = 12;
    private static final int MOST_FIELDS = 20;
    private static final int MOST_PARAMETERS = 7;

    private LanguageTest() {
    }

    public static void main(String[] args) throws IOException {
        oneFile();
        String text = Files.readString(FOLDER.resolve("ReversalCourt.java"),
                StandardCharsets.ISO_8859_1);
        signs(text);
        wordsLeftOut(withoutComments(text));
        methodLengths(text);
        shape();
        Trial.end();
    }

    private static void oneFile() throws IOException {
        try (var files = Files.list(FOLDER)) {
            Trial.check(List.of(FOLDER.resolve("ReversalCourt.java")), files.toList(), "the files");
        }
    }

    private static void signs(String text) {
        boolean plain = text.chars().allMatch(sign -> sign == '\n' || sign >= 32 && sign < 127);
        Trial.check(true, plain, "the signs of the program are plain ones");
    }

    private static String withoutComments(String text) {
        return text.replaceAll("(?s)/\\*.*?\\*/", "").replaceAll("//[^\n]*", "")
                .replaceAll("\"[^\"\n]*\"", "\"\"");
    }

    /** What rules 1 to 6 and 13 leave out, wherever it stands. */
    private static void wordsLeftOut(String code) {
        String[] words = {
            "\\bpackage\\b", "\\bprotected\\b", "::", "\\bsynchronized\\b", "\\bassert\\b",
            "\\bfinally\\b", "\\bstatic\\s*\\{", "Exact\\b", "\\bThread\\b", "\\bObject\\b",
            "\\bRandom\\b", "\\brandom\\b", "\\bformat\\b", "\\bhashCode\\b", "\\bnative\\b",
            "\\bvolatile\\b", "\\bThrowable\\b", "\\bException\\b", "\\bNullPointerException\\b",
            "\\bArrayIndexOutOfBoundsException\\b", "\\bClassCastException\\b",
            "\\bNegativeArraySizeException\\b", "\\bArrayStoreException\\b",
            "(?m)^(?!\\s*(case|default)\\b).*->", "\\bSystem\\.(?!arraycopy\\b)",
            "\\bimport\\s+(?!java\\.util\\.)",
        };
        for (String word : words) {
            Trial.check(false, java.util.regex.Pattern.compile(word).matcher(code).find(),
                    "the program has " + word);
        }
    }

    /** The program stands in lines of which a method's first and last are indented alike. */
    private static void methodLengths(String text) {
        String[] lines = text.split("\n");
        List<String> heads = new ArrayList<>();
        int start = 0;
        for (int line = 0; line < lines.length; line++) {
            if (lines[line].matches(" +(public |private |static )*[A-Za-z\\[\\]]+ \\w+\\(.*")) {
                start = line;
                heads.add(lines[line].trim());
            }
            if (lines[line].matches(" {4,8}\\}")) {
                Trial.check(true, line - start < LONGEST_METHOD, "a method ends at line " + line);
            }
        }
        Trial.check(true, heads.size() > 25, "methods are found");
    }

    private static void shape() {
        List<Class<?>> classes = new ArrayList<>(List.of(ReversalCourt.class.getDeclaredClasses()));
        classes.add(ReversalCourt.class);
        Trial.check(true, classes.size() <= MOST_CLASSES, "there are few classes");
        Set<String> face = new TreeSet<>();
        for (Method method : ReversalCourt.class.getDeclaredMethods()) {
            if (Modifier.isPublic(method.getModifiers())) {
                face.add(method.getName());
            }
        }
        for (Class<?> one : classes) {
            shapeOf(one, face);
        }
    }

    private static void shapeOf(Class<?> one, Set<String> face) {
        boolean outside = one == ReversalCourt.class;
        Trial.check(true, outside || Modifier.isStatic(one.getModifiers()), one + " is static");
        int fields = 0;
        for (Field field : one.getDeclaredFields()) {
            int modifiers = field.getModifiers();
            fields += Modifier.isStatic(modifiers) ? 0 : 1;
            Trial.check(true, !Modifier.isStatic(modifiers) || Modifier.isFinal(modifiers),
                    field + " is final, if it is static");
        }
        Trial.check(true, fields <= MOST_FIELDS, one + " has few fields");
        for (Method method : one.getDeclaredMethods()) {
            Trial.check(true, method.getParameterCount() <= MOST_PARAMETERS,
                    method + " takes few parameters");
            Trial.check(outside && Modifier.isPublic(method.getModifiers()),
                    face.contains(method.getName()), method + " has a name of the face");
        }
    }
}
