import java.io.ByteArrayOutputStream;
import java.io.File;
import java.io.IOException;
import java.io.PrintStream;
import java.lang.reflect.Method;
import java.net.URL;
import java.net.URLClassLoader;
import java.nio.charset.StandardCharsets;
import java.nio.file.Files;
import java.nio.file.Path;
import java.util.regex.Matcher;
import java.util.regex.Pattern;
import javax.tools.ToolProvider;

/** The program in README.md compiles with the class, and prints what stands behind its calls. */
public final class ReadmeTest {
    public static void main(String[] arguments) throws Exception {
        String text = Files.readString(Path.of("README.md"));
        Check.about("README.md");
        Matcher block = Pattern.compile("(?s)```java\\R(.*?)```").matcher(text);
        Check.same("a program", true, block.find());
        String program = block.group(1);
        Matcher name = Pattern.compile("public final class (\\w+)").matcher(program);
        Check.same("a class", true, name.find());
        Check.same("its answers", dueLines(program), printed(name.group(1), program));
        Check.same("how it is compiled", true,
            text.contains("javac -d out src/main/java/Sketchery.java " + name.group(1) + ".java"));
        Check.same("how it is run", true, text.contains("java -cp out " + name.group(1)));
        Check.same("how the tests are run", true, text.contains("    .ci/run"));
        eachTestIsTold(text);
        Check.end("ReadmeTest");
    }

    private static String dueLines(String program) {
        StringBuilder due = new StringBuilder();
        Matcher call = Pattern.compile("show\\(\\w+\\..*\\); +// (\\S+)").matcher(program);
        while (call.find()) {
            due.append(call.group(1)).append('\n');
        }
        return due.toString();
    }

    private static String printed(String name, String program) throws Exception {
        Path directory = Files.createTempDirectory("readme");
        try {
            Path file = directory.resolve(name + ".java");
            Files.writeString(file, program);
            int failed = ToolProvider.getSystemJavaCompiler().run(null, null, null, "-d", directory.toString(),
                "src/main/java/Sketchery.java", file.toString());
            return failed != 0 ? "it does not compile" : run(name, directory);
        } finally {
            for (File each : directory.toFile().listFiles()) {
                each.delete();
            }
            directory.toFile().delete();
        }
    }

    private static String run(String name, Path directory) throws Exception {
        PrintStream before = System.out;
        ByteArrayOutputStream written = new ByteArrayOutputStream();
        URL[] places = {directory.toUri().toURL()};
        try (URLClassLoader loader = new URLClassLoader(places, ClassLoader.getPlatformClassLoader())) {
            Method main = loader.loadClass(name).getMethod("main", String[].class);
            System.setOut(new PrintStream(written, true, StandardCharsets.UTF_8));
            main.invoke(null, (Object) new String[0]);
        } finally {
            System.setOut(before);
        }
        return written.toString(StandardCharsets.UTF_8).replace("\r", "");
    }

    private static void eachTestIsTold(String text) throws IOException {
        for (File file : new File("src/test/java").listFiles()) {
            String name = file.getName().replace(".java", "");
            Check.same("it tells of " + name, true, text.contains("`" + name + "`"));
        }
    }
}
