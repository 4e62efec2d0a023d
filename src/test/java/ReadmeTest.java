import java.io.ByteArrayOutputStream;
import java.io.IOException;
import java.io.PrintStream;
import java.lang.reflect.Field;
import java.lang.reflect.Method;
import java.lang.reflect.Modifier;
import java.net.URL;
import java.net.URLClassLoader;
import java.nio.charset.StandardCharsets;
import java.nio.file.DirectoryStream;
import java.nio.file.Files;
import java.nio.file.Path;
import java.util.regex.Matcher;
import java.util.regex.Pattern;
import javax.tools.ToolProvider;

/** README.md holds: its example prints what it says, and no call, constant or test is missing in its tables. */
public final class ReadmeTest {
    private static final Checks CHECKS = new Checks();

    public static void main(String[] args) throws Exception {
        String readme = Files.readString(Path.of("README.md"));
        callsAreTold(readme);
        constantsAreTold(readme);
        testsAreTold(readme);
        CHECKS.due("the example", printedBy(block(readme, "java")), block(readme, "text"));
        CHECKS.end();
    }

    private static void callsAreTold(String readme) {
        for (Method method : LevelScores.class.getDeclaredMethods()) {
            if (Modifier.isPublic(method.getModifiers())) {
                String names = method.getParameterCount() == 0 ? "" : "\\w+(, \\w+){" + (method.getParameterCount() - 1) + "}";
                CHECKS.due("rows of " + method.getName(), rows(readme, "\\| `" + method.getName() + "\\(" + names + "\\)` \\|"), 1);
            }
        }
    }

    private static void constantsAreTold(String readme) throws IllegalAccessException {
        for (Field field : LevelScores.class.getDeclaredFields()) {
            if (Modifier.isPublic(field.getModifiers())) {
                CHECKS.due("rows of " + field.getName(), rows(readme, "\\| `" + field.getName() + "` \\| " + field.getInt(null) + " \\|"), 1);
            }
        }
    }

    private static void testsAreTold(String readme) throws IOException {
        try (DirectoryStream<Path> tests = Files.newDirectoryStream(Path.of("src/test/java"), "*Test.java")) {
            for (Path test : tests) {
                String name = test.getFileName().toString().replace(".java", "");
                CHECKS.due("rows of " + name, rows(readme, "\\| `" + name + "` \\|"), 1);
            }
        }
    }

    /** How many lines begin so. */
    private static long rows(String readme, String begin) {
        return readme.lines().filter(line -> Pattern.compile(begin).matcher(line).lookingAt()).count();
    }

    /** What stands in the first block of a kind. */
    private static String block(String readme, String kind) {
        Matcher found = Pattern.compile("^```" + kind + "\n(.*?)^```$", Pattern.DOTALL | Pattern.MULTILINE).matcher(readme);
        return found.find() ? found.group(1) : "no block of " + kind;
    }

    /** What the class Example prints, which is compiled and run beside the program. */
    private static String printedBy(String example) throws Exception {
        Path folder = Files.createTempDirectory("readme");
        Path source = folder.resolve("Example.java");
        Path built = folder.resolve("Example.class");
        try {
            Files.writeString(source, example);
            String classes = System.getProperty("java.class.path");
            int status = ToolProvider.getSystemJavaCompiler().run(null, null, null, "-cp", classes, "-d", folder.toString(), source.toString());
            return status == 0 ? printedFrom(folder) : "does not compile";
        } finally {
            Files.deleteIfExists(source);
            Files.deleteIfExists(built);
            Files.delete(folder);
        }
    }

    private static String printedFrom(Path folder) throws Exception {
        PrintStream screen = System.out;
        ByteArrayOutputStream printed = new ByteArrayOutputStream();
        try (URLClassLoader loader = new URLClassLoader(new URL[] {folder.toUri().toURL()})) {
            System.setOut(new PrintStream(printed, true, StandardCharsets.UTF_8));
            loader.loadClass("Example").getMethod("main", String[].class).invoke(null, (Object) new String[0]);
        } finally {
            System.setOut(screen);
        }
        return printed.toString(StandardCharsets.UTF_8);
    }
}
