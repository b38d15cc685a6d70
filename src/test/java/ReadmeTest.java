import java.io.File;
import java.lang.reflect.Method;
import java.lang.reflect.Modifier;
import java.net.URL;
import java.net.URLClassLoader;
import java.nio.file.Files;
import java.nio.file.Path;
import java.util.Comparator;
import java.util.List;
import java.util.regex.Matcher;
import java.util.regex.Pattern;
import java.util.stream.Stream;
import javax.tools.ToolProvider;

/** README.md, tried: its lines of Java are compiled as they stand and answer what stands behind them. */
public final class ReadmeTest {
    private static final Pattern BLOCK = Pattern.compile("```java\n(.*?)```", Pattern.DOTALL);
    private static final Pattern ASKED = Pattern.compile("(x\\.(\\w+)\\(.*\\)); +// (-?[0-9]+|[A-Z]+)(?:: .*)?");

    public static void main(String[] args) throws Exception {
        String page = Files.readString(Path.of("README.md"));
        answers(page);
        calls(page);
        tests(page);
        Check.end("ReadmeTest");
    }

    private static void answers(String page) throws Exception {
        StringBuilder body = new StringBuilder();
        Matcher block = BLOCK.matcher(page);
        while (block.find()) {
            for (String line : block.group(1).split("\n")) {
                body.append(asked(line)).append('\n');
            }
        }
        Path folder = Files.createTempDirectory("readme");
        try {
            run(folder, "public final class Page { public static void main(String[] args) {\n" + body + "} }\n");
        } finally {
            remove(folder);
        }
    }

    /** A line with an answer behind it becomes one that checks it. */
    private static String asked(String line) {
        Matcher m = ASKED.matcher(line);
        if (!m.matches()) {
            Check.holds("no answer is meant by: " + line, !line.contains("//"));
            return line;
        }
        String due = Character.isLetter(m.group(3).charAt(0)) ? "HeaviestFirst." + m.group(3) : m.group(3);
        return "Check.due(\"README: " + m.group(1) + "\", " + m.group(1) + ", " + due + ");";
    }

    private static void run(Path folder, String source) throws Exception {
        Path file = Files.writeString(folder.resolve("Page.java"), source);
        String own = System.getProperty("java.class.path");
        int code = ToolProvider.getSystemJavaCompiler().run(null, null, null, "-cp", own, "-d", folder.toString(), file.toString());
        Check.due("javac of README.md's lines", code, 0);
        if (code == 0) {
            try (URLClassLoader loader = new URLClassLoader(new URL[] {folder.toUri().toURL()}, ReadmeTest.class.getClassLoader())) {
                loader.loadClass("Page").getMethod("main", String[].class).invoke(null, (Object) new String[0]);
            }
        }
    }

    private static void remove(Path folder) throws Exception {
        try (Stream<Path> all = Files.walk(folder)) {
            for (Path path : all.sorted(Comparator.reverseOrder()).toList()) {
                Files.delete(path);
            }
        }
    }

    private static void calls(String page) {
        for (Method method : HeaviestFirst.class.getDeclaredMethods()) {
            if (Modifier.isPublic(method.getModifiers())) {
                Check.holds("README.md shows " + method.getName(), page.contains("x." + method.getName() + "("));
            }
        }
        for (String constant : List.of("NONE", "UNKNOWN", "OUTSIDE", "NOT", "FULL")) {
            Check.holds("README.md tells of " + constant, page.contains("`" + constant + "`"));
        }
    }

    private static void tests(String page) {
        String[] files = new File("src/test/java").list();
        for (String file : files == null ? new String[0] : files) {
            String test = file.replace(".java", "");
            Check.holds("README.md names " + test, !test.endsWith("Test") || page.contains(test));
        }
        Matcher named = Pattern.compile("\\w+Test\\b").matcher(page);
        while (named.find()) {
            Check.holds("there is a " + named.group(), new File("src/test/java/" + named.group() + ".java").isFile());
        }
        Check.holds("README.md tells the one command", page.contains("    .ci/run\n") && new File(".ci/run").canExecute());
    }
}
