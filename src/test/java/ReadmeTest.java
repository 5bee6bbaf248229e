import java.io.ByteArrayOutputStream;
import java.io.IOException;
import java.io.PrintStream;
import java.lang.reflect.Method;
import java.lang.reflect.Modifier;
import java.net.URL;
import java.net.URLClassLoader;
import java.nio.charset.StandardCharsets;
import java.nio.file.Files;
import java.nio.file.Path;
import java.util.ArrayList;
import java.util.List;
import java.util.regex.Matcher;
import java.util.regex.Pattern;
import javax.tools.JavaCompiler;
import javax.tools.ToolProvider;

/** The examples of README.md run as they stand, print what it says, and show every call. The tests run in the checkout's root. */
final class ReadmeTest {
    private static final Due due = new Due("ReadmeTest");
    private static final Pattern CLASS_NAME = Pattern.compile("public final class (\\w+)");

    public static void main(String[] args) throws IOException, ReflectiveOperationException {
        String readme = Files.readString(Path.of("README.md"));
        List<String> examples = blocks(readme, "java");
        List<String> prints = blocks(readme, "text");
        due.is("there are examples", !examples.isEmpty(), true);
        due.is("what they print", prints.size(), examples.size());
        for (int i = 0; i < examples.size() && i < prints.size(); i++) {
            runs(readme, examples.get(i), prints.get(i));
        }
        everyCallIsShown(String.join("", examples));
        due.is("how to run the tests", blocks(readme, "sh").contains(".ci/run\n"), true);
        due.end();
    }

    private static List<String> blocks(String readme, String kind) {
        List<String> found = new ArrayList<>();
        Matcher block = Pattern.compile("(?ms)^```" + kind + "\n(.*?)^```$").matcher(readme);
        while (block.find()) {
            found.add(block.group(1));
        }
        return found;
    }

    private static void runs(String readme, String example, String prints) throws IOException, ReflectiveOperationException {
        Matcher name = CLASS_NAME.matcher(example);
        if (!name.find()) {
            due.same("an example", "no class", "a class");
            return;
        }
        due.is(name.group(1) + ", how to run it", readme.contains("java -cp out " + name.group(1) + ".java\n"), true);
        due.same(name.group(1), printed(name.group(1), example), prints);
    }

    private static String printed(String name, String example) throws IOException, ReflectiveOperationException {
        Path directory = Files.createTempDirectory("readme");
        Path source = directory.resolve(name + ".java");
        Path compiled = directory.resolve(name + ".class");
        try {
            Files.writeString(source, example);
            JavaCompiler compiler = ToolProvider.getSystemJavaCompiler();
            String path = System.getProperty("java.class.path");
            if (compiler == null || compiler.run(null, null, null, "-cp", path, "-d", directory.toString(), source.toString()) != 0) {
                return "not compiled";
            }
            return printedBy(directory, name);
        } finally {
            Files.deleteIfExists(source);
            Files.deleteIfExists(compiled);
            Files.deleteIfExists(directory);
        }
    }

    private static String printedBy(Path directory, String name) throws IOException, ReflectiveOperationException {
        PrintStream before = System.out;
        ByteArrayOutputStream out = new ByteArrayOutputStream();
        try (URLClassLoader loader = new URLClassLoader(new URL[] {directory.toUri().toURL()})) {
            Method main = loader.loadClass(name).getMethod("main", String[].class);
            System.setOut(new PrintStream(out, true, StandardCharsets.UTF_8));
            main.invoke(null, (Object) new String[0]);
        } finally {
            System.setOut(before);
        }
        return out.toString(StandardCharsets.UTF_8).replace(System.lineSeparator(), "\n");
    }

    private static void everyCallIsShown(String examples) {
        for (Method method : RelayStakes.class.getDeclaredMethods()) {
            if (Modifier.isPublic(method.getModifiers())) {
                due.is("an example shows " + method.getName(), examples.contains("x." + method.getName() + "("), true);
            }
        }
    }
}
