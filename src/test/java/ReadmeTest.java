import java.io.ByteArrayOutputStream;
import java.io.IOException;
import java.io.PrintStream;
import java.lang.reflect.InvocationTargetException;
import java.lang.reflect.Method;
import java.lang.reflect.Modifier;
import java.net.URL;
import java.net.URLClassLoader;
import java.nio.charset.StandardCharsets;
import java.nio.file.Files;
import java.nio.file.Path;
import java.util.Comparator;
import java.util.List;
import java.util.regex.Matcher;
import java.util.regex.Pattern;
import java.util.stream.Collectors;
import java.util.stream.Stream;
import javax.tools.ToolProvider;

/**
 * The README's example must compile as it is written and print what stands below it, and each call
 * of the class must be named there with as many arguments as it takes.
 * Argument: the path of the class; the README stands four directories above it.
 */
public final class ReadmeTest {
    private static int wrong;

    public static void main(String[] args) throws Exception {
        Path source = Path.of(args.length > 0 ? args[0] : "src/main/java/CableShip.java").toAbsolutePath().normalize();
        Path readme = source.getParent().getParent().getParent().getParent().resolve("README.md");
        String text = Files.readString(readme, StandardCharsets.UTF_8);
        checkCalls(text);
        checkExample(block(text, "java"), block(text, "text"), source);
        if (wrong > 0) {
            System.exit(1);
        }
    }

    private static void tell(String fault) {
        wrong++;
        System.out.println(fault);
    }

    private static String block(String text, String kind) {
        Matcher found = Pattern.compile("(?ms)^```" + kind + "\n(.*?)^```$").matcher(text);
        if (!found.find()) {
            tell("the README has no block of " + kind);
            return "";
        }
        return found.group(1);
    }

    private static void checkCalls(String text) {
        for (Method each : CableShip.class.getDeclaredMethods()) {
            int count = each.getParameterCount();
            String arguments = count == 0 ? "" : "\\w+(, \\w+){" + (count - 1) + "}";
            String call = "`" + each.getName() + "\\(" + arguments + "\\)`";
            if (Modifier.isPublic(each.getModifiers()) && !Pattern.compile(call).matcher(text).find()) {
                tell("the README does not name " + call);
            }
        }
    }

    private static void checkExample(String example, String due, Path source) throws Exception {
        Path directory = Files.createTempDirectory("readme");
        try {
            Path file = directory.resolve("Voyage.java");
            Files.writeString(file, example, StandardCharsets.UTF_8);
            int code = ToolProvider.getSystemJavaCompiler().run(null, null, null,
                "-encoding", "UTF-8", "-d", directory.toString(), source.toString(), file.toString());
            if (code != 0) {
                tell("the README's example does not compile");
                return;
            }
            String got = printedIn(directory);
            if (!got.equals(due)) {
                tell("the README's example prints\n" + got + "due is\n" + due);
            }
        } finally {
            clear(directory);
        }
    }

    /** Without this test's own classes, as a reader would run it. */
    private static String printedIn(Path directory) throws Exception {
        ByteArrayOutputStream printed = new ByteArrayOutputStream();
        PrintStream out = System.out;
        URL[] where = {directory.toUri().toURL()};
        try (URLClassLoader loader = new URLClassLoader(where, ClassLoader.getPlatformClassLoader())) {
            System.setOut(new PrintStream(printed, true, StandardCharsets.UTF_8));
            loader.loadClass("Voyage").getMethod("main", String[].class).invoke(null, (Object) new String[0]);
        } catch (InvocationTargetException thrown) {
            tell("the README's example throws " + thrown.getCause());
        } finally {
            System.setOut(out);
        }
        return printed.toString(StandardCharsets.UTF_8).replace(System.lineSeparator(), "\n");
    }

    private static void clear(Path directory) throws IOException {
        List<Path> made;
        try (Stream<Path> walk = Files.walk(directory)) {
            made = walk.sorted(Comparator.reverseOrder()).collect(Collectors.toList());
        }
        for (Path each : made) {
            Files.delete(each);
        }
    }
}
