import java.io.StringWriter;
import java.net.URI;
import java.net.URL;
import java.net.URLClassLoader;
import java.nio.charset.StandardCharsets;
import java.nio.file.Files;
import java.nio.file.Path;
import java.util.ArrayList;
import java.util.Comparator;
import java.util.List;
import java.util.regex.Matcher;
import java.util.regex.Pattern;
import java.util.stream.Stream;
import javax.tools.JavaCompiler;
import javax.tools.SimpleJavaFileObject;
import javax.tools.ToolProvider;

/**
 * README.md: what it shows of calls is compiled and tried as it stands there, one block behind the other, each call
 * with the number behind it as its answer; and it names every test.
 */
public final class ReadmeTest {
    private static final Pattern BLOCK = Pattern.compile("(?ms)^```java\n(.*?)^```$");
    private static final Pattern SHOWN = Pattern.compile("(x\\.\\w+\\(.*?\\));\\s+// (-?[\\d,]*\\d)\\b.*");

    private static int wrong = 0;
    private static int shown = 0;

    private static void complain(String what) {
        wrong++;
        System.out.println("README.md: " + what);
    }

    /** The blocks call this in place of what they show. */
    public static void due(String call, int got, int want) {
        if (got != want) complain(call + " answered " + got + ", the page says " + want);
    }

    public static void main(String[] args) throws Exception {
        String page = Files.readString(Path.of("README.md"), StandardCharsets.UTF_8);
        namesTests(page);
        Path out = Files.createTempDirectory("readme");
        try {
            play(program(page), out);
        } finally {
            drop(out);
        }
        System.out.println(wrong == 0 ? "README.md's " + shown + " calls answer as it shows" : wrong + " things are not as README.md says");
        if (wrong != 0) System.exit(1);
    }

    private static void namesTests(String page) throws Exception {
        List<String> tests = new ArrayList<>();
        try (Stream<Path> files = Files.list(Path.of("src/test/java"))) {
            files.map(file -> file.getFileName().toString()).filter(name -> name.endsWith("Test.java")).sorted().forEach(tests::add);
        }
        for (String test : tests) {
            String name = test.replace(".java", "");
            if (!page.contains("- `" + name + "`: ")) complain("does not tell of " + name);
        }
        if (!page.contains("\n.ci/run\n") || !Files.isExecutable(Path.of(".ci/run"))) complain("does not tell how to run the tests");
    }

    /** A block that begins with a method stands beside the others, which are one run of calls. */
    private static String program(String page) {
        StringBuilder methods = new StringBuilder();
        StringBuilder run = new StringBuilder();
        Matcher m = BLOCK.matcher(page);
        while (m.find()) {
            if (m.group(1).startsWith("static ")) {
                methods.append(m.group(1));
            } else {
                m.group(1).lines().forEach(line -> run.append(statement(line)).append('\n'));
            }
        }
        if (shown < 40) complain("shows " + shown + " calls only");
        return "public final class Shown {\n" + methods + "public static void run() {\n" + run + "}\n}\n";
    }

    private static String statement(String line) {
        Matcher m = SHOWN.matcher(line);
        if (m.matches()) {
            shown++;
            return "ReadmeTest.due(\"" + m.group(1) + "\", " + m.group(1) + ", " + m.group(2).replace(",", "") + ");";
        }
        if (line.startsWith("x.")) complain("shows a call without its answer: " + line);
        return line;
    }

    private static void play(String program, Path out) throws Exception {
        JavaCompiler compiler = ToolProvider.getSystemJavaCompiler();
        if (compiler == null) {
            complain("can't be tried, there is no compiler");
            return;
        }
        StringWriter said = new StringWriter();
        List<String> options = List.of("-cp", System.getProperty("java.class.path"), "-d", out.toString());
        if (!compiler.getTask(said, null, null, options, null, List.of(new Text(program))).call()) {
            complain("shows what does not compile:\n" + said + program);
            return;
        }
        try (URLClassLoader loader = new URLClassLoader(new URL[] {out.toUri().toURL()})) {
            loader.loadClass("Shown").getMethod("run").invoke(null);
        }
    }

    private static void drop(Path out) throws Exception {
        try (Stream<Path> files = Files.walk(out)) {
            for (Path file : files.sorted(Comparator.reverseOrder()).toList()) Files.delete(file);
        }
    }

    private static final class Text extends SimpleJavaFileObject {
        private final String program;

        Text(String program) {
            super(URI.create("string:///Shown.java"), Kind.SOURCE);
            this.program = program;
        }

        @Override
        public CharSequence getCharContent(boolean ignoreEncodingErrors) {
            return program;
        }
    }
}
