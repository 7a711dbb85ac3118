import java.io.IOException;
import java.net.URL;
import java.net.URLClassLoader;
import java.nio.charset.StandardCharsets;
import java.nio.file.Files;
import java.nio.file.Path;
import java.util.ArrayList;
import java.util.List;
import java.util.regex.Matcher;
import java.util.regex.Pattern;
import java.util.stream.Stream;
import javax.tools.ToolProvider;

/**
 * README.md against the program: its run of calls is compiled and played, and each answer that it shows
 * must be the one that is given. Its table must name every class of tests, and no other. Arguments: the
 * document, the program's source, README.md.
 */
public final class ReadmeTests {
    private static final Checks C = new Checks();
    /** A call, or a variable that takes its answer; then the answer as README.md shows it. */
    private static final Pattern SHOWN = Pattern.compile("(?:int (\\w+) = )?(house\\.[^;]*);\\s+// (.*)");
    private static final String START = "Nomdeplume house = new Nomdeplume();";
    private static final int FEWEST_CALLS = 30;

    private final List<String> calls = new ArrayList<>();
    private final List<String> due = new ArrayList<>();
    private final StringBuilder body = new StringBuilder();

    public static void main(String[] args) throws IOException, ReflectiveOperationException {
        Path readme = Path.of(args[2]);
        List<String> lines = Files.readAllLines(readme, StandardCharsets.UTF_8);
        new ReadmeTests().answers(lines);
        table(lines, readme.toAbsolutePath().getParent().resolve("src/test/java"));
        C.close("ReadmeTests");
    }

    private void answers(List<String> lines) throws IOException, ReflectiveOperationException {
        List<String> run = block(lines);
        C.is("the run starts with", START, run.isEmpty() ? "" : run.get(0));
        for (int i = 1; i < run.size(); i++) {
            take(run.get(i));
        }
        C.is("the run has calls enough", true, calls.size() >= FEWEST_CALLS);
        List<String> got = play();
        for (int i = 0; i < calls.size(); i++) {
            C.is("README.md, " + calls.get(i), due.get(i), got.get(i));
        }
    }

    private static List<String> block(List<String> lines) {
        int start = lines.indexOf("```java");
        C.is("one run of calls", start, lines.lastIndexOf("```java"));
        return lines.subList(start + 1, start + 1 + lines.subList(start + 1, lines.size()).indexOf("```"));
    }

    private void take(String line) {
        Matcher shown = SHOWN.matcher(line);
        C.is("README.md shows an answer, " + line, true, shown.matches());
        String call = shown.group(2);
        calls.add(call);
        due.add(shown.group(3));
        if (shown.group(1) != null) {
            body.append("int ").append(shown.group(1)).append(" = ").append(call).append(";\n");
            body.append("got.add(shown(").append(shown.group(1)).append("));\n");
        } else {
            body.append("try { got.add(shown(").append(call).append(")); }\n");
            body.append("catch (RuntimeException e) { got.add(\"throws \" + e.getClass().getSimpleName()); }\n");
        }
    }

    private List<String> play() throws IOException, ReflectiveOperationException {
        Path folder = Files.createTempDirectory("readme");
        Path source = folder.resolve("ReadmeRun.java");
        Files.writeString(source, "public final class ReadmeRun {\n"
            + "static String shown(Object a) { return a instanceof Character ? \"'\" + a + \"'\" : String.valueOf(a); }\n"
            + "public static void play(java.util.List<String> got) {\n" + START + "\n" + body + "}\n}\n");
        String classes = System.getProperty("java.class.path");
        int code = ToolProvider.getSystemJavaCompiler().run(null, null, null, "-cp", classes, "-d", folder.toString(), source.toString());
        C.is("the run compiles", 0, code);
        List<String> got = new ArrayList<>();
        try (URLClassLoader loader = new URLClassLoader(new URL[] {folder.toUri().toURL()})) {
            loader.loadClass("ReadmeRun").getMethod("play", List.class).invoke(null, got);
        }
        try (Stream<Path> files = Files.list(folder)) {
            for (Path file : files.toList()) {
                Files.delete(file);
            }
        }
        Files.delete(folder);
        return got;
    }

    private static void table(List<String> lines, Path tests) throws IOException {
        List<String> named = new ArrayList<>();
        for (String line : lines) {
            Matcher row = Pattern.compile("\\| `(\\w+)` \\|.*").matcher(line);
            if (row.matches()) {
                named.add(row.group(1));
            }
        }
        try (Stream<Path> files = Files.list(tests)) {
            List<String> found = files.map(f -> f.getFileName().toString().replace(".java", ""))
                .filter(f -> f.endsWith("Tests") || f.endsWith("Runs")).sorted().toList();
            C.is("the table of tests", found, named.stream().sorted().toList());
        }
    }
}
