import java.io.ByteArrayOutputStream;
import java.io.IOException;
import java.io.PrintStream;
import java.lang.reflect.Method;
import java.net.URL;
import java.net.URLClassLoader;
import java.nio.charset.StandardCharsets;
import java.nio.file.DirectoryStream;
import java.nio.file.Files;
import java.nio.file.Path;
import java.util.Arrays;
import java.util.TreeSet;
import java.util.regex.Matcher;
import java.util.regex.Pattern;
import javax.tools.ToolProvider;

/** README.md: its program prints what is shown there, and its tables name the calls and tests that there are. */
public final class ReadmeTest {
    private static final Path PAGE = Path.of("README.md");
    private static final Path TESTS = Path.of("src", "test", "java");

    public static void main(String[] args) throws Exception {
        String page = Files.readString(PAGE);
        Check.same("what the program prints", printed(part(page, "java")), part(page, "text"));
        refusals(page, IllegalArgumentException.class);
        refusals(page, IllegalStateException.class);
        tests(page);
        Check.end();
    }

    /** The only part of the page that is marked as of this kind. */
    private static String part(String page, String kind) {
        Matcher parts = Pattern.compile("```" + kind + "\n(.*?)```", Pattern.DOTALL).matcher(page);
        String found = parts.find() ? parts.group(1) : "";
        Check.equal("README.md has a part of " + kind, found.isEmpty(), false);
        Check.equal("README.md has another part of " + kind, parts.find(), false);
        return found;
    }

    /** Compiles the program Example and answers what its main method prints. */
    private static String printed(String program) throws Exception {
        Path place = Files.createTempDirectory("readme");
        Path source = place.resolve("Example.java");
        Path compiled = place.resolve("Example.class");
        PrintStream console = System.out;
        ByteArrayOutputStream bytes = new ByteArrayOutputStream();
        try {
            Files.writeString(source, program);
            int status = ToolProvider.getSystemJavaCompiler().run(null, null, null, "-Xlint:all", "-Werror",
                    "-cp", System.getProperty("java.class.path"), "-d", place.toString(), source.toString());
            Check.equal("javac of the program", status, 0);
            if (status == 0) {
                System.setOut(new PrintStream(bytes, true, StandardCharsets.UTF_8));
                run(place);
            }
        } finally {
            System.setOut(console);
            Files.deleteIfExists(source);
            Files.deleteIfExists(compiled);
            Files.deleteIfExists(place);
        }
        return bytes.toString(StandardCharsets.UTF_8).replace(System.lineSeparator(), "\n");
    }

    private static void run(Path place) throws Exception {
        try (URLClassLoader loader = new URLClassLoader(new URL[] {place.toUri().toURL()})) {
            Method start = loader.loadClass("Example").getMethod("main", String[].class);
            start.invoke(null, (Object) new String[0]);
        }
    }

    /** The row of an exception names just the calls that can throw it. */
    private static void refusals(String page, Class<?> exception) {
        String name = exception.getSimpleName();
        TreeSet<String> due = new TreeSet<>();
        for (Method method : PeatRailway.class.getMethods()) {
            if (Arrays.asList(method.getExceptionTypes()).contains(exception)) {
                due.add(method.getName());
            }
        }
        Matcher row = Pattern.compile("^\\| " + name + " \\|.*$", Pattern.MULTILINE).matcher(page);
        TreeSet<String> named = new TreeSet<>();
        if (row.find()) {
            Matcher calls = Pattern.compile("`(\\w+)`").matcher(row.group());
            while (calls.find()) {
                named.add(calls.group(1));
            }
        }
        Check.same("the calls that throw " + name, named.toString(), due.toString());
    }

    /** The table names each test of the project, those of edges together, and no other. */
    private static void tests(String page) throws IOException {
        TreeSet<String> named = new TreeSet<>();
        Matcher rows = Pattern.compile("^\\| (\\S+Test) \\|", Pattern.MULTILINE).matcher(page);
        while (rows.find()) {
            named.add(rows.group(1));
        }
        TreeSet<String> there = new TreeSet<>();
        try (DirectoryStream<Path> files = Files.newDirectoryStream(TESTS, "*Test.java")) {
            for (Path file : files) {
                String name = file.getFileName().toString().replace(".java", "");
                there.add(name.startsWith("Edges") ? "Edges...Test" : name);
            }
        }
        Check.same("the tests that are named", named.toString(), there.toString());
    }
}
