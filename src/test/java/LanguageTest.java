import java.io.IOException;
import java.nio.file.Files;
import java.nio.file.Path;
import java.util.List;
import java.util.Set;
import java.util.regex.Matcher;
import java.util.regex.Pattern;

/** Those rules of LANGUAGE.md that can be seen in the text of the program. Runs in the project's folder. */
public final class LanguageTest {
    private static final int LONGEST_METHOD = 60;

    private static final List<String> FORBIDDEN = List.of(
            "^package ", "^import ", "->", "::", "\\bfinally\\b", "\\btry\\b", "\\bassert\\b", "\\bsynchronized\\b",
            "\\bjava\\.", "\"\\s*\\+", "\\+\\s*\"", "getMessage", "[^\\x00-\\x7f]", "\\bstatic \\{", "Exact\\(",
            "\\bThread\\b", "\\bRandom\\b", "currentTimeMillis", "nanoTime", "getenv", "\\bout\\.print");

    /** The library's names that the program uses; rule 4 lists more. */
    private static final Set<String> NAMES = Set.of("System", "IndexOutOfBoundsException",
            "IllegalArgumentException", "IllegalStateException", "UnsupportedOperationException");

    public static void main(String[] args) throws IOException {
        String text = Files.readString(Path.of("src/main/java/CertifiedBooks.java"));
        for (String pattern : FORBIDDEN) {
            Matcher found = Pattern.compile(pattern, Pattern.MULTILINE).matcher(text);
            Check.compare("found " + pattern, false, found.find());
        }
        checkThrown(text);
        checkLibrary(text);
        checkNames(text);
        checkMethodLengths(text);
        Check.end();
    }

    private static void checkThrown(String text) {
        Pattern allowed = Pattern.compile("throw new (IllegalState|IllegalArgument|IndexOutOfBounds"
                + "|UnsupportedOperation)Exception\\(\"[^\"]+\"\\);");
        Check.compare("throw statements of another form", 0L,
                count(Pattern.compile("\\bthrow\\b"), text) - count(allowed, text));
    }

    private static void checkLibrary(String text) {
        Check.compare("calls of System but arraycopy", 0L,
                count(Pattern.compile("\\bSystem\\."), text) - count(Pattern.compile("\\bSystem\\.arraycopy\\("), text));
    }

    private static void checkNames(String text) {
        String code = text.replaceAll("\"[^\"]*\"", "").replaceAll("(?s)/\\*.*?\\*/|//[^\n]*", "");
        Matcher name = Pattern.compile("\\b[A-Z][A-Z_]*[a-z]\\w*").matcher(code);
        while (name.find()) {
            Check.compare(name.group() + " is a class of the language or of the program", true,
                    NAMES.contains(name.group()) || code.contains("class " + name.group() + " {"));
        }
    }

    private static void checkMethodLengths(String text) {
        int length = 0;
        for (String line : text.split("\n")) {
            length = line.isBlank() ? 0 : length + 1;
            Check.compare("lines without a blank one, at " + line.trim(), true, length <= LONGEST_METHOD);
        }
    }

    private static long count(Pattern pattern, String text) {
        return pattern.matcher(text).results().count();
    }
}
