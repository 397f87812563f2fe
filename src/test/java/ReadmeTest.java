import java.io.IOException;
import java.net.URL;
import java.net.URLClassLoader;
import java.nio.file.Files;
import java.nio.file.Path;
import java.util.List;
import java.util.Set;
import java.util.TreeSet;
import java.util.regex.Matcher;
import java.util.regex.Pattern;
import java.util.stream.Collectors;
import java.util.stream.Stream;
import javax.tools.ToolProvider;

/** README.md: what it shows of the use of the class is compiled and run, and the tests that it names are there. */
public final class ReadmeTest {
    private static final Pattern BLOCK = Pattern.compile("(?ms)^```java\n(.*?)^```$");
    /** A call, and behind it the answer that is shown: a number or a constant. */
    private static final Pattern SHOWN = Pattern.compile("(int \\w+ = )?(\\w+\\.\\w+\\(.*\\)); +// (-?\\d+|RockName\\.\\w+)(:.*)?");
    private static final Pattern MAKES = Pattern.compile("RockName \\w+ = new RockName\\(\\);");
    private static int wrong = 0;
    private static int answers = 0;

    private static void mustBe(boolean is, String what) {
        if (!is) {
            wrong++;
            System.out.println(what);
        }
    }

    /** The lines of the page's blocks call these. */
    public static int due(String call, int got, long want) {
        return (int) due(call, (long) got, want);
    }

    public static long due(String call, long got, long want) {
        answers++;
        mustBe(got == want, "README.md: " + call + " answers " + got + ", not " + want);
        return got;
    }

    private static String asked(String line) {
        Matcher m = SHOWN.matcher(line);
        if (!m.matches()) {
            return line;
        }
        String name = m.group(1) == null ? "" : m.group(1);
        String quoted = m.group(2).replace("\"", "\\\"");
        return name + "ReadmeTest.due(\"" + quoted + "\", " + m.group(2) + ", " + m.group(3) + ");";
    }

    private static String programOf(String page) {
        StringBuilder program = new StringBuilder("public final class Shown {\n");
        Matcher block = BLOCK.matcher(page);
        int blocks = 0;
        while (block.find()) {
            program.append("public static void block").append(blocks).append("() {\n");
            block.group(1).lines().forEach(line -> program.append(asked(line)).append('\n'));
            program.append("}\n");
            blocks++;
        }
        program.append("public static void all() {\n");
        for (int k = 0; k < blocks; k++) {
            program.append("block").append(k).append("();\n");
        }
        return program.append("}\n}\n").toString();
    }

    private static void use(String page) throws Exception {
        long shown = page.lines().filter(line -> SHOWN.matcher(line).matches()).count();
        long comments = page.lines().filter(line -> line.contains("; ") && line.contains(" // ")).count();
        mustBe(shown > 0 && shown == comments, comments + " lines have a comment, " + shown + " of these an answer");
        mustBe(MAKES.matcher(page).find(), "README.md makes no object");
        Path room = Files.createTempDirectory(Files.createDirectories(Path.of("build")), "shown");
        Path source = room.resolve("Shown.java");
        Files.writeString(source, programOf(page));
        String classes = System.getProperty("java.class.path");
        int code = ToolProvider.getSystemJavaCompiler().run(null, System.out, System.out, "-proc:none", "-cp", classes,
            "-d", room.toString(), source.toString());
        mustBe(code == 0, "README.md: what it shows is no Java");
        if (code == 0) {
            try (URLClassLoader loader = new URLClassLoader(new URL[] {room.toUri().toURL()})) {
                loader.loadClass("Shown").getMethod("all").invoke(null);
            }
            mustBe(answers == shown, answers + " of " + shown + " answers were looked at");
        }
        remove(room);
    }

    private static void remove(Path room) throws IOException {
        try (Stream<Path> files = Files.list(room)) {
            for (Path file : files.collect(Collectors.toList())) {
                Files.delete(file);
            }
        }
        Files.delete(room);
    }

    private static void tests(String page) throws IOException {
        Set<String> named = new TreeSet<>();
        Matcher name = Pattern.compile("(?m)^- `(\\w+)`:").matcher(page);
        while (name.find()) {
            named.add(name.group(1) + ".java");
        }
        try (Stream<Path> files = Files.list(Path.of("src/test/java"))) {
            Set<String> there = files.map(file -> file.getFileName().toString())
                .collect(Collectors.toCollection(TreeSet::new));
            mustBe(named.equals(there), "README.md names " + named + ", there are " + there);
        }
        for (String path : List.of("src/main/java/RockName.java", "src/test/support/Checks.java", ".ci/run",
            "../shared/DOC.md", "../shared/LANGUAGE.md", "../shared/tests")) {
            mustBe(page.contains(path) && Files.exists(Path.of(path)), "README.md names, and there is, " + path);
        }
        mustBe(page.contains("\n    .ci/run\n") && Files.isExecutable(Path.of(".ci/run")), ".ci/run is run so");
    }

    public static void main(String[] args) throws Exception {
        String page = Files.readString(Path.of("README.md"));
        use(page);
        tests(page);
        System.out.println(wrong == 0 ? "README.md is as the class is" : wrong + " things are not as README.md says");
        if (wrong != 0) {
            System.exit(1);
        }
    }
}
