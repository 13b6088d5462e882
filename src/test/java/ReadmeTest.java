import java.io.IOException;
import java.lang.reflect.Method;
import java.lang.reflect.Modifier;
import java.net.URL;
import java.net.URLClassLoader;
import java.nio.file.Files;
import java.nio.file.Path;
import java.util.ArrayList;
import java.util.List;
import java.util.function.Supplier;
import java.util.regex.Matcher;
import java.util.regex.Pattern;
import java.util.stream.Collectors;
import java.util.stream.Stream;
import javax.tools.ToolProvider;

/** README.md: the use that it shows compiles and answers as its comments say. Runs in the project's folder. */
public final class ReadmeTest {
    private static final Pattern SHOWN = Pattern.compile("^```java\n(.*?)^```$", Pattern.DOTALL | Pattern.MULTILINE);
    private static final Pattern TOLD = Pattern.compile("(.*;) +// (answers|throws) ([-\\w]+)([,:] .*)?");
    private static final Pattern DECLARED = Pattern.compile("(\\w+ (\\w+) = )?(.*);");
    /** Nothing else may stand in the shown use without telling what it answers. */
    private static final Pattern UNTOLD = Pattern.compile(
            "|//.*|CertifiedBooks books = new CertifiedBooks\\(\\);|books\\.(certify|withdraw)\\(.*\\);");

    private ReadmeTest() {
    }

    public static void main(String[] args) throws IOException, ReflectiveOperationException {
        String readme = Files.readString(Path.of("README.md"));
        Matcher shown = SHOWN.matcher(readme);
        Check.compare("README.md shows the use", true, shown.find());
        compareUse(shown.group(1).lines().collect(Collectors.toList()));
        compareCallsShown(shown.group(1));
        compareTestsNamed(readme);
        Check.end();
    }

    private static void compareUse(List<String> lines) throws IOException, ReflectiveOperationException {
        List<String> calls = new ArrayList<>();
        List<Object> due = new ArrayList<>();
        StringBuilder body = new StringBuilder();
        for (String line : lines) {
            Matcher told = TOLD.matcher(line);
            if (told.matches()) {
                calls.add(told.group(1));
                due.add(told.group(3));
                body.append(told.group(2).equals("throws") ? tellThrown(told.group(1)) : tellAnswer(told.group(1)));
            } else {
                Check.compare("README.md tells what is answered: " + line, true, UNTOLD.matcher(line).matches());
                body.append(line).append('\n');
            }
        }
        List<Object> got = run(body);
        Check.compare("README.md: as many answers as are told", due.size(), got.size());
        for (int i = 0; i < due.size(); i++) {
            Check.compare("README.md: " + calls.get(i), due.get(i), got.get(i));
        }
    }

    private static String tellAnswer(String statement) {
        Matcher declared = DECLARED.matcher(statement);
        if (declared.matches() && declared.group(1) != null) {
            return statement + " told.add(String.valueOf(" + declared.group(2) + "));\n";
        }
        return "told.add(String.valueOf(" + statement.substring(0, statement.length() - 1) + "));\n";
    }

    private static String tellThrown(String statement) {
        return "try { " + statement + " told.add(\"nothing\"); }"
                + " catch (RuntimeException e) { told.add(e.getClass().getSimpleName()); }\n";
    }

    @SuppressWarnings("unchecked")
    private static List<Object> run(CharSequence body) throws IOException, ReflectiveOperationException {
        Path folder = Files.createTempDirectory("readme");
        Path source = folder.resolve("ShownUse.java");
        Files.writeString(source, "import java.util.*;\n"
                + "public final class ShownUse implements java.util.function.Supplier<List<Object>> {\n"
                + "public List<Object> get() {\nList<Object> told = new ArrayList<>();\n"
                + body + "return told;\n}\n}\n");
        int failed = ToolProvider.getSystemJavaCompiler().run(null, null, null, "-d", folder.toString(),
                "-cp", System.getProperty("java.class.path"), source.toString());
        Check.compare("README.md: the shown use compiles", 0, failed);
        try (URLClassLoader loader = new URLClassLoader(new URL[] {folder.toUri().toURL()})) {
            Object use = loader.loadClass("ShownUse").getConstructor().newInstance();
            return ((Supplier<List<Object>>) use).get();
        } finally {
            Files.deleteIfExists(folder.resolve("ShownUse.class"));
            Files.deleteIfExists(source);
            Files.deleteIfExists(folder);
        }
    }

    private static void compareCallsShown(String use) {
        for (Method method : CertifiedBooks.class.getDeclaredMethods()) {
            if (Modifier.isPublic(method.getModifiers())) {
                String call = "books." + method.getName() + "(";
                Check.compare("README.md shows " + call, true, use.contains(call));
            }
        }
    }

    private static void compareTestsNamed(String readme) throws IOException {
        try (Stream<Path> files = Files.list(Path.of("src/test/java"))) {
            files.map(file -> file.getFileName().toString()).filter(name -> name.endsWith("Test.java"))
                    .map(name -> "`" + name.replace(".java", "") + "`")
                    .forEach(name -> Check.compare("README.md names " + name, true, readme.contains(name)));
        }
    }
}
