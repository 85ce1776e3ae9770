import java.io.ByteArrayOutputStream;
import java.io.IOException;
import java.io.PrintStream;
import java.lang.reflect.Method;
import java.lang.reflect.Modifier;
import java.net.URL;
import java.net.URLClassLoader;
import java.nio.charset.StandardCharsets;
import java.nio.file.Files;
import java.nio.file.Path;
import java.util.Comparator;
import java.util.List;
import java.util.stream.Stream;
import javax.tools.JavaCompiler;
import javax.tools.ToolProvider;

/** README.md: its example compiles with the class and prints what README.md says; it names all calls and tests. */
public final class ReadmeTests {
    private static int wrong = 0;

    private static void check(boolean good, String what) {
        if (!good) {
            wrong++;
            System.out.println("not so: " + what);
        }
    }

    /** The lines of the first block of a kind behind a place; empty if there is none. */
    private static String blockBehind(String text, int place, String kind) {
        String head = "\n```" + kind + "\n";
        int start = text.indexOf(head, place);
        int end = start < 0 ? -1 : text.indexOf("\n```\n", start + head.length());
        return end < 0 ? "" : text.substring(start + head.length(), end + 1);
    }

    private static boolean compiles(Path file, Path classes) {
        JavaCompiler compiler = ToolProvider.getSystemJavaCompiler();
        return compiler != null && compiler.run(null, System.out, System.out, "-Xlint:all", "-Werror",
                "-encoding", "UTF-8", "-cp", System.getProperty("java.class.path"), "-d", classes.toString(), file.toString()) == 0;
    }

    private static String printed(Path classes) throws IOException, ReflectiveOperationException {
        PrintStream usual = System.out;
        ByteArrayOutputStream caught = new ByteArrayOutputStream();
        try (URLClassLoader loader = new URLClassLoader(new URL[] {classes.toUri().toURL()})) {
            System.setOut(new PrintStream(caught, true, StandardCharsets.UTF_8));
            Method main = loader.loadClass("Example").getMethod("main", String[].class);
            main.invoke(null, (Object) new String[0]);
        } finally {
            System.setOut(usual);
        }
        return caught.toString(StandardCharsets.UTF_8).replace(System.lineSeparator(), "\n");
    }

    private static void example(String readme) throws IOException, ReflectiveOperationException {
        String code = blockBehind(readme, 0, "java");
        String due = blockBehind(readme, readme.indexOf(code), "text");
        check(code.contains("class Example") && !due.isEmpty(), "README.md has an example and what it prints");
        Path room = Files.createTempDirectory("readme");
        try {
            Path file = Files.writeString(room.resolve("Example.java"), code);
            boolean compiled = compiles(file, room);
            check(compiled, "the example compiles");
            if (compiled) {
                String got = printed(room);
                check(got.equals(due), "the example prints what README.md says, but printed\n" + got);
            }
        } finally {
            removeAll(room);
        }
    }

    private static void removeAll(Path room) throws IOException {
        List<Path> paths;
        try (Stream<Path> walk = Files.walk(room)) {
            paths = walk.sorted(Comparator.reverseOrder()).toList();
        }
        for (Path path : paths) {
            Files.delete(path);
        }
    }

    private static void names(String readme) throws IOException {
        for (Method method : ClauseCourt.class.getDeclaredMethods()) {
            if (Modifier.isPublic(method.getModifiers())) {
                check(readme.contains("court." + method.getName() + "("), "the example uses " + method.getName());
            }
        }
        check(readme.contains("bash .ci/run"), "README.md says how to run the tests");
        try (Stream<Path> files = Files.list(Path.of("src/test/java"))) {
            for (Path file : files.toList()) {
                String name = file.getFileName().toString().replace(".java", "");
                check(readme.contains("- `" + name + "`: "), "README.md names the test " + name);
            }
        }
    }

    public static void main(String[] args) throws IOException, ReflectiveOperationException {
        String readme = Files.readString(Path.of("README.md"));
        example(readme);
        names(readme);
        System.out.println(wrong == 0 ? "README.md is as due" : wrong + " things are not so");
        if (wrong != 0) {
            System.exit(1);
        }
    }
}
