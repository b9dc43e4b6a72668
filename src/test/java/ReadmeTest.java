import java.io.File;
import java.io.IOException;
import java.lang.reflect.Method;
import java.lang.reflect.Modifier;
import java.net.URL;
import java.net.URLClassLoader;
import java.nio.file.Files;
import java.nio.file.Path;
import java.util.ArrayList;
import java.util.List;
import java.util.TreeSet;
import java.util.regex.Matcher;
import java.util.regex.Pattern;
import java.util.stream.Stream;
import javax.tools.JavaCompiler;
import javax.tools.ToolProvider;

/**
 * What README.md shows of the class's use: each piece of Java compiles just as
 * it stands there, and each call answers what its comment begins with. Run it
 * from the project's folder.
 */
public final class ReadmeTest {
    private static final Path README = Path.of("README.md");
    private static final Path TESTS = Path.of("src/test/java");
    private static final Path RUN = Path.of(".ci/run");
    private static final String NEW_BENCH = "FitBench bench = new FitBench();";
    private static final Pattern CALL =
            Pattern.compile("(bench\\.(\\w+)\\([-\\d, ]*\\)); +// (true|false|-?\\d+)(: .+)?");

    private static final TreeSet<String> shown = new TreeSet<>();
    private static int pieces = 0;
    private static int answers = 0;
    private static int wrong = 0;

    private ReadmeTest() {
    }

    public static void main(String[] args) throws Exception {
        List<String> lines = Files.readAllLines(README);
        runPieces(sourceOf(lines));
        everyCallIsShown();
        testsAreNamed(String.join("\n", lines));
        System.out.println(wrong == 0 ? answers + " answers of " + pieces + " pieces are as README.md says"
                : wrong + " faults of README.md");
        if (wrong != 0) {
            System.exit(1);
        }
    }

    private static void fault(String what) {
        wrong++;
        System.out.println("README.md, " + what);
    }

    /** Called by what is made of the pieces. */
    public static void due(int line, String call, String got, String want) {
        answers++;
        if (!got.equals(want)) {
            fault("line " + line + ": " + call + " answered " + got + ", it says " + want);
        }
    }

    /** A class with each piece twice: as it stands, and with its answers looked at. */
    private static String sourceOf(List<String> lines) {
        StringBuilder source = new StringBuilder("public final class ReadmeUse {\n");
        StringBuilder calls = new StringBuilder("    public static void all() {\n");
        boolean inside = false;
        List<String> piece = new ArrayList<>();
        int first = 0;
        for (int i = 0; i < lines.size(); i++) {
            if (!inside && lines.get(i).trim().startsWith("```java")) {
                inside = true;
                first = i + 2;
                piece.clear();
            } else if (inside && lines.get(i).trim().startsWith("```")) {
                inside = false;
                pieces++;
                source.append("    static void shown").append(pieces).append("() {\n")
                        .append(String.join("\n", piece)).append("\n    }\n\n");
                source.append("    static void looked").append(pieces).append("() {\n")
                        .append(looked(piece, first)).append("    }\n\n");
                calls.append("        shown").append(pieces).append("();\n");
                calls.append("        looked").append(pieces).append("();\n");
            } else if (inside) {
                piece.add(lines.get(i));
            }
        }
        if (inside || pieces == 0) {
            fault("a piece of Java has no end, or there is none");
        }
        return source.append(calls).append("    }\n}\n").toString();
    }

    private static String looked(List<String> piece, int first) {
        StringBuilder code = new StringBuilder();
        for (int i = 0; i < piece.size(); i++) {
            String line = piece.get(i).trim();
            Matcher call = CALL.matcher(line);
            if (line.equals(NEW_BENCH)) {
                code.append(line).append('\n');
            } else if (call.matches()) {
                shown.add(call.group(2));
                code.append("ReadmeTest.due(").append(first + i).append(", \"").append(call.group(1))
                        .append("\", String.valueOf(").append(call.group(1)).append("), \"")
                        .append(call.group(3)).append("\");\n");
            } else {
                fault("line " + (first + i) + ": no call that says its answer: " + line);
            }
        }
        return code.toString();
    }

    private static void runPieces(String source) throws Exception {
        JavaCompiler compiler = ToolProvider.getSystemJavaCompiler();
        if (compiler == null) {
            fault("there is no compiler to try its pieces");
            return;
        }
        Path folder = Files.createTempDirectory("readme");
        Path file = folder.resolve("ReadmeUse.java");
        try {
            Files.writeString(file, source);
            int code = compiler.run(null, null, null, "--release", "17", "-proc:none", "-implicit:none",
                    "-cp", System.getProperty("java.class.path"), "-d", folder.toString(), file.toString());
            if (code != 0) {
                fault("its pieces do not compile");
                return;
            }
            try (URLClassLoader loader = new URLClassLoader(new URL[] {folder.toUri().toURL()})) {
                loader.loadClass("ReadmeUse").getMethod("all").invoke(null);
            }
        } finally {
            remove(folder);
        }
    }

    private static void remove(Path folder) {
        File[] files = folder.toFile().listFiles();
        for (File file : files == null ? new File[0] : files) {
            file.delete();
        }
        folder.toFile().delete();
    }

    private static void everyCallIsShown() {
        for (Method method : FitBench.class.getDeclaredMethods()) {
            if (Modifier.isPublic(method.getModifiers()) && !shown.contains(method.getName())) {
                fault("no piece shows " + method.getName());
            }
        }
    }

    /** The page tells how to run the tests, and of each test that there is, and of no other. */
    private static void testsAreNamed(String text) throws IOException {
        if (!text.contains("```sh\n" + RUN + "\n```") || !Files.isExecutable(RUN)) {
            fault("how to run the tests");
        }
        TreeSet<String> there = new TreeSet<>();
        try (Stream<Path> files = Files.list(TESTS)) {
            files.map(file -> file.getFileName().toString()).filter(name -> name.endsWith("Test.java"))
                    .forEach(name -> there.add(name.replace(".java", "")));
        }
        TreeSet<String> named = new TreeSet<>();
        Matcher rows = Pattern.compile("(?m)^\\| `(\\w+)` \\|").matcher(text);
        while (rows.find()) {
            named.add(rows.group(1));
        }
        if (!there.equals(named)) {
            fault("its table names " + named + ", there are " + there);
        }
    }
}
