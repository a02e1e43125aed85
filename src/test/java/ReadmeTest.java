import java.io.ByteArrayOutputStream;
import java.io.IOException;
import java.io.PrintStream;
import java.lang.reflect.InvocationTargetException;
import java.net.URL;
import java.net.URLClassLoader;
import java.nio.file.Files;
import java.nio.file.Path;
import java.util.Comparator;
import java.util.List;
import java.util.stream.Collectors;
import java.util.stream.Stream;
import javax.tools.ToolProvider;

/** README.md's example compiles and prints what README.md says. */
public final class ReadmeTest {
    private static final Check CHECK = new Check("ReadmeTest");

    private ReadmeTest() {
    }

    public static void main(String[] args) throws IOException, ReflectiveOperationException {
        String readme = Files.readString(Path.of("README.md"));
        Path directory = Files.createTempDirectory("readme");
        try {
            CHECK.dueText("the example prints", printed(directory, block(readme, "java")), block(readme, "text"));
            everyMethodIsNamed(readme);
        } finally {
            delete(directory);
        }
        CHECK.end();
    }

    /** The first block of README.md of a kind. */
    private static String block(String readme, String kind) {
        String head = "```" + kind + "\n";
        int start = readme.indexOf(head) + head.length();
        return readme.substring(start, readme.indexOf("```", start));
    }

    private static String printed(Path directory, String program) throws IOException, ReflectiveOperationException {
        Path file = Files.writeString(directory.resolve("Example.java"), program);
        String classPath = System.getProperty("java.class.path");
        int code = ToolProvider.getSystemJavaCompiler().run(null, null, null, "-cp", classPath, "-d", directory.toString(), file.toString());
        CHECK.due("javac of the example", code, 0);
        if (code != 0) {
            return "nothing";
        }
        try (URLClassLoader loader = new URLClassLoader(new URL[] {directory.toUri().toURL()})) {
            return outputOf(loader.loadClass("Example"));
        }
    }

    private static String outputOf(Class<?> example) throws ReflectiveOperationException {
        PrintStream before = System.out;
        ByteArrayOutputStream bytes = new ByteArrayOutputStream();
        System.setOut(new PrintStream(bytes, true));
        try {
            example.getMethod("main", String[].class).invoke(null, (Object) new String[0]);
        } catch (InvocationTargetException thrown) {
            System.out.println("throws " + thrown.getCause());
        } finally {
            System.setOut(before);
        }
        return bytes.toString().replace(System.lineSeparator(), "\n");
    }

    private static void everyMethodIsNamed(String readme) {
        for (java.lang.reflect.Method method : BusBridge.class.getDeclaredMethods()) {
            if (java.lang.reflect.Modifier.isPublic(method.getModifiers())) {
                CHECK.due("README.md names " + method.getName(), readme.contains("`" + method.getName() + "`"), true);
            }
        }
    }

    private static void delete(Path directory) throws IOException {
        List<Path> paths;
        try (Stream<Path> all = Files.walk(directory)) {
            paths = all.sorted(Comparator.reverseOrder()).collect(Collectors.toList());
        }
        for (Path path : paths) {
            Files.delete(path);
        }
    }
}
