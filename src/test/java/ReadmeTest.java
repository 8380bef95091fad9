import java.io.IOException;
import java.io.StringWriter;
import java.lang.reflect.Method;
import java.lang.reflect.Modifier;
import java.net.URI;
import java.net.URL;
import java.net.URLClassLoader;
import java.nio.file.Files;
import java.nio.file.Path;
import java.util.ArrayList;
import java.util.List;
import java.util.Set;
import java.util.TreeSet;
import java.util.regex.Matcher;
import java.util.regex.Pattern;
import javax.tools.JavaCompiler;
import javax.tools.JavaFileObject;
import javax.tools.SimpleJavaFileObject;
import javax.tools.ToolProvider;

/** What README.md shows: its program compiles, and each answer that stands behind a call is the one it gives. */
public final class ReadmeTest {
    private static final Pattern BLOCK = Pattern.compile("(?s)```java\n(.*?)```");
    private static final Pattern SHOWN = Pattern.compile("(x\\.(\\w+)\\([^;]*\\));\\s*// (-?\\d+|NONE|BAD|STATE|FULL): \\S.*");
    private static final Pattern TAKES = Pattern.compile("\\| `(\\w)` \\| (\\d) [^|]*\\| (\\d), (\\d), (\\d) \\|");

    private final Set<String> names = new TreeSet<>();
    private final List<String> calls = new ArrayList<>();
    private final List<String> wanted = new ArrayList<>();
    private final StringBuilder program = new StringBuilder();

    public static void main(String[] args) throws Exception {
        String readme = Files.readString(Path.of("README.md"));
        new ReadmeTest().test(readme);
        sorts(readme);
        constants(readme);
        Check.holds("it says how to run the tests", readme.contains(".ci/run"));
        Check.end("ReadmeTest");
    }

    private void test(String readme) throws Exception {
        Matcher block = BLOCK.matcher(readme);
        while (block.find()) {
            for (String line : block.group(1).split("\n")) {
                program.append(kept(line)).append('\n');
            }
        }
        List<Integer> answers = answers("public final class Shown {\n"
            + "public static void run(java.util.List<Integer> answers) {\n" + program + "}}\n");
        Check.due("README.md: answers", answers.size(), calls.size());
        for (int i = 0; i < Math.min(answers.size(), calls.size()); i++) {
            Check.due("README.md: " + calls.get(i), answers.get(i), value(wanted.get(i)));
        }
        for (Method m : NewsShips.class.getDeclaredMethods()) {
            if (Modifier.isPublic(m.getModifiers())) {
                Check.holds(m.getName() + " is shown with its answer", names.contains(m.getName()));
            }
        }
    }

    /** A line that shows an answer becomes one that keeps it; each call in a line of its own must show one. */
    private String kept(String line) {
        Matcher shown = SHOWN.matcher(line);
        if (shown.matches()) {
            calls.add(shown.group(1));
            names.add(shown.group(2));
            wanted.add(shown.group(3));
            return "answers.add(" + shown.group(1) + ");";
        }
        Check.holds("an answer is shown: " + line, !line.startsWith("x."));
        return line;
    }

    private static int value(String answer) {
        switch (answer) {
            case "NONE": return NewsShips.NONE;
            case "BAD": return NewsShips.BAD;
            case "STATE": return NewsShips.STATE;
            case "FULL": return NewsShips.FULL;
            default: return Integer.parseInt(answer);
        }
    }

    private static List<Integer> answers(String source) throws Exception {
        List<Integer> answers = new ArrayList<>();
        Path out = Files.createTempDirectory("readme");
        try {
            StringWriter said = new StringWriter();
            JavaCompiler compiler = ToolProvider.getSystemJavaCompiler();
            boolean compiled = compiler.getTask(said, null, null,
                List.of("-d", out.toString(), "-cp", System.getProperty("java.class.path"), "-proc:none"),
                null, List.of(new Source(source))).call();
            Check.holds("the program compiles: " + said, compiled);
            if (compiled) {
                try (URLClassLoader loader = new URLClassLoader(new URL[] {out.toUri().toURL()},
                        ReadmeTest.class.getClassLoader())) {
                    loader.loadClass("Shown").getMethod("run", List.class).invoke(null, answers);
                }
            }
        } finally {
            clear(out);
        }
        return answers;
    }

    private static void clear(Path folder) throws IOException {
        try (var all = Files.list(folder)) {
            for (Path file : all.toList()) {
                Files.delete(file);
            }
        }
        Files.delete(folder);
    }

    /** The table of sorts: kinds, and how long ways of 1, 3 and 4 days take. */
    private static void sorts(String readme) {
        NewsShips x = new NewsShips();
        int rows = 0;
        Matcher m = TAKES.matcher(readme);
        while (m.find()) {
            rows++;
            Check.read(x, "p2;w0,1,1;w0,1,3;w0,1,4;" + m.group(1) + "0;");
            Check.due("README.md: kind of " + m.group(1), x.kind(0), Integer.parseInt(m.group(2)));
            for (int way = 0; way < 3; way++) {
                Check.due("README.md: " + m.group(), x.takes(0, way), Integer.parseInt(m.group(3 + way)));
            }
        }
        Check.due("README.md: sorts", rows, 5);
    }

    private static void constants(String readme) {
        Check.holds("NONE", readme.contains("`NONE` " + NewsShips.NONE + " "));
        Check.holds("BAD", readme.contains("`BAD` " + NewsShips.BAD + " "));
        Check.holds("STATE", readme.contains("`STATE` " + NewsShips.STATE + " "));
        Check.holds("FULL", readme.contains("`FULL` " + NewsShips.FULL + " "));
    }

    /** A source that stands in no file. */
    private static final class Source extends SimpleJavaFileObject {
        private final String text;

        Source(String text) {
            super(URI.create("string:///Shown.java"), JavaFileObject.Kind.SOURCE);
            this.text = text;
        }

        @Override
        public CharSequence getCharContent(boolean ignoreEncodingErrors) {
            return text;
        }
    }
}
