import java.io.IOException;
import java.lang.reflect.Method;
import java.lang.reflect.Modifier;
import java.nio.file.Files;
import java.nio.file.Path;
import java.util.ArrayList;
import java.util.List;
import java.util.TreeSet;
import java.util.regex.Matcher;
import java.util.regex.Pattern;

/** 'The public face': each call with its types and its exceptions, in the order of the document. */
public final class FaceTest {
    private static final String FACE = """
        ---- hashes and sketches
        int hash(int, int) throws IllegalArgumentException
        int sketch(char, int, int, int) throws IllegalArgumentException, IllegalStateException
        int addTyped(int, int) throws IndexOutOfBoundsException, IllegalArgumentException
        int type(int) throws IllegalArgumentException, IllegalStateException
        int typeRow(int, int, int) throws IllegalArgumentException, IllegalStateException
        int wipe()
        long merge(int, int) throws IndexOutOfBoundsException, UnsupportedOperationException
        char kind(int) throws IndexOutOfBoundsException
        long seen(int) throws IndexOutOfBoundsException
        boolean isSame(int, int) throws IndexOutOfBoundsException
        ---- filters, distinct and heavy items, counts
        boolean may(int, int) throws IndexOutOfBoundsException, IllegalArgumentException, UnsupportedOperationException
        int ones(int) throws IndexOutOfBoundsException, UnsupportedOperationException
        int register(int, int) throws IndexOutOfBoundsException, UnsupportedOperationException, NoSuchElementException
        double distinct(int) throws IndexOutOfBoundsException, UnsupportedOperationException
        long count(int, int) throws IndexOutOfBoundsException, IllegalArgumentException, UnsupportedOperationException
        int heavyAt(int, int) throws IndexOutOfBoundsException, UnsupportedOperationException, NoSuchElementException
        long error(int) throws IndexOutOfBoundsException, UnsupportedOperationException
        long excess(int, int, int) throws IndexOutOfBoundsException, IllegalArgumentException, UnsupportedOperationException, NoSuchElementException
        ---- quantiles, samples, windows
        long rank(int, int) throws IndexOutOfBoundsException, IllegalArgumentException, UnsupportedOperationException
        int quantile(int, int) throws IndexOutOfBoundsException, IllegalArgumentException, UnsupportedOperationException, NoSuchElementException
        int kept(int, int) throws IndexOutOfBoundsException, IllegalArgumentException, UnsupportedOperationException
        int keptAt(int, int, int) throws IndexOutOfBoundsException, UnsupportedOperationException, NoSuchElementException
        int sampleAt(int, int) throws IndexOutOfBoundsException, UnsupportedOperationException, NoSuchElementException
        int tick(int) throws IllegalArgumentException, IllegalStateException
        int within(int) throws IndexOutOfBoundsException, UnsupportedOperationException
        int bucketAt(int, int) throws IndexOutOfBoundsException, UnsupportedOperationException, NoSuchElementException
        ---- likeness and cells
        int leastAt(int, int) throws IndexOutOfBoundsException, UnsupportedOperationException, NoSuchElementException
        int likeness(int, int) throws IndexOutOfBoundsException, UnsupportedOperationException
        int subtract(int, int) throws IndexOutOfBoundsException, UnsupportedOperationException
        int peeled(int, boolean) throws IndexOutOfBoundsException, UnsupportedOperationException
        int peeledAt(int, boolean, int) throws IndexOutOfBoundsException, UnsupportedOperationException, NoSuchElementException
        boolean isClean(int) throws IndexOutOfBoundsException, UnsupportedOperationException
        ---- failures and figures
        int filterFailures(int, int, int, int) throws IllegalArgumentException
        int cellFailures(int, int, int) throws IllegalArgumentException
        int leastBits(int, int, int) throws IllegalArgumentException, NoSuchElementException
        float seenShare() throws ArithmeticException
        long checksum()
        boolean isSound()
        """;

    public static void main(String[] arguments) throws IOException {
        Path path = Path.of(arguments.length > 0 ? arguments[0] : "src/main/java/Sketchery.java");
        Check.about("the public face");
        signatures();
        order(Files.readString(path));
        Check.end("FaceTest");
    }

    private static String signature(Method method) {
        StringBuilder text = new StringBuilder();
        text.append(method.getReturnType().getSimpleName()).append(' ').append(method.getName()).append('(');
        text.append(names(method.getParameterTypes())).append(')');
        if (method.getExceptionTypes().length > 0) {
            text.append(" throws ").append(names(method.getExceptionTypes()));
        }
        return text.toString();
    }

    private static String names(Class<?>[] types) {
        List<String> names = new ArrayList<>();
        for (Class<?> type : types) {
            names.add(type.getSimpleName());
        }
        return String.join(", ", names);
    }

    private static void signatures() {
        TreeSet<String> due = new TreeSet<>();
        for (String line : FACE.split("\n")) {
            if (!line.startsWith("----")) {
                due.add(line);
            }
        }
        TreeSet<String> got = new TreeSet<>();
        for (Method method : Sketchery.class.getDeclaredMethods()) {
            if (Modifier.isPublic(method.getModifiers())) {
                got.add(signature(method));
                Check.same("of an object: " + method, false, Modifier.isStatic(method.getModifiers()));
            }
        }
        Check.same("38 calls", 38, got.size());
        Check.same("each call with its types and exceptions", due, got);
        Check.same("one constructor", 1, Sketchery.class.getConstructors().length);
        Check.same("no parameters", 0, Sketchery.class.getConstructors()[0].getParameterCount());
        Check.same("no exceptions", 0, Sketchery.class.getConstructors()[0].getExceptionTypes().length);
        Check.same("no constants", 0, Sketchery.class.getFields().length);
    }

    private static void order(String text) {
        List<String> due = new ArrayList<>();
        for (String line : FACE.split("\n")) {
            due.add(line.startsWith("----") ? line : line.replaceAll("\\(.*", "").replaceAll(".* ", ""));
        }
        List<String> got = new ArrayList<>();
        Matcher matcher = Pattern.compile("(?m)^ {4}(?:// (----.*)|public \\w+ (\\w+)\\()").matcher(text);
        while (matcher.find()) {
            got.add(matcher.group(1) != null ? matcher.group(1) : matcher.group(2));
        }
        got.remove("---- what the calls above share");
        Check.same("the calls in their order, with what the interface says ahead of them", due, got);
    }
}
