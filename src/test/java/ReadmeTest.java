import java.io.IOException;
import java.net.URL;
import java.net.URLClassLoader;
import java.nio.file.DirectoryStream;
import java.nio.file.Files;
import java.nio.file.Path;
import java.util.Set;
import java.util.TreeSet;
import java.util.regex.Matcher;
import java.util.regex.Pattern;
import javax.tools.ToolProvider;

/** What README.md shows as a use of the class compiles and has the answers told there; each test is in its list. */
public final class ReadmeTest {
    private static final Path README = Path.of("README.md");
    private static final Path TESTS = Path.of("src/test/java");
    private static final String MADE = "PrefixBook book = new PrefixBook();";
    private static final Pattern BLOCK = Pattern.compile("(?s)```java\n(.*?)```");
    // A call, and behind it its answer, up to a colon that begins the reason.
    private static final Pattern CALL = Pattern.compile("(book\\.(\\w+)\\(.*\\)); +// ([^:]+?)(: .*)?");
    private static final Set<String> METHODS = Set.of("address", "put", "remove", "number", "longest", "covering",
            "ahead", "at", "size", "told");

    private static final Due due = new Due();

    public static void main(String[] args) throws Exception {
        String readme = Files.readString(README);
        showsTrueAnswers(readme);
        listsEachTest(readme);
        due.end();
    }

    private static void showsTrueAnswers(String readme) throws Exception {
        Matcher block = BLOCK.matcher(readme);
        due.is("README.md shows a use", block.find(), true);
        for (String[] one : answersOf(block.group(1))) {
            due.is("README.md: " + one[0], one[1], one[2]);
        }
        due.is("README.md shows one use alone", block.find(), false);
    }

    private static String[][] answersOf(String block) throws Exception {
        StringBuilder rows = new StringBuilder();
        Set<String> shown = new TreeSet<>();
        String[] lines = block.split("\n");
        due.is("README.md makes a book first", lines[0], MADE);
        for (int i = 1; i < lines.length; i++) {
            Matcher call = CALL.matcher(lines[i]);
            if (!call.matches()) {
                due.is("README.md shows a call with its answer", lines[i], "book.call(..);   // answer: reason");
                continue;
            }
            shown.add(call.group(2));
            rows.append("{\"" + call.group(1) + "\", \"\" + " + call.group(1) + ", \"\" + (" + call.group(3) + ")},\n");
        }
        due.is("README.md shows each method", shown.toString(), new TreeSet<>(METHODS).toString());
        return compiledAndCalled("public final class ReadmeUse { public static String[][] answers() {\n"
                + MADE + "\nreturn new String[][] {\n" + rows + "}; } }\n");
    }

    private static String[][] compiledAndCalled(String source) throws Exception {
        Path dir = Files.createTempDirectory("readme");
        Path file = dir.resolve("ReadmeUse.java");
        try {
            Files.writeString(file, source);
            int failed = ToolProvider.getSystemJavaCompiler().run(null, null, null,
                    "-cp", System.getProperty("java.class.path"), "-d", dir.toString(), file.toString());
            due.is("README.md's use fails to compile", failed, 0);
            if (failed != 0) {
                return new String[0][];
            }
            try (URLClassLoader loader = new URLClassLoader(new URL[] {dir.toUri().toURL()})) {
                return (String[][]) loader.loadClass("ReadmeUse").getMethod("answers").invoke(null);
            }
        } finally {
            Files.deleteIfExists(file);
            Files.deleteIfExists(dir.resolve("ReadmeUse.class"));
            Files.delete(dir);
        }
    }

    private static void listsEachTest(String readme) throws IOException {
        Set<String> there = new TreeSet<>();
        try (DirectoryStream<Path> files = Files.newDirectoryStream(TESTS, "*Test.java")) {
            for (Path file : files) {
                there.add(TESTS.resolve(file.getFileName()).toString());
            }
        }
        Set<String> listed = new TreeSet<>();
        Matcher item = Pattern.compile("(?m)^- `(src/test/java/\\w+\\.java)`").matcher(readme);
        while (item.find()) {
            listed.add(item.group(1));
        }
        due.is("README.md lists each test", listed.toString(), there.toString());
    }
}
