import java.io.IOException;
import java.lang.reflect.Constructor;
import java.lang.reflect.Field;
import java.lang.reflect.Method;
import java.lang.reflect.Modifier;
import java.nio.file.Files;
import java.nio.file.Path;
import java.util.ArrayList;
import java.util.HashSet;
import java.util.List;
import java.util.Set;
import java.util.TreeSet;
import java.util.regex.Matcher;
import java.util.regex.Pattern;

/** Rules of LANGUAGE.md that can be read from the class and its text; the path of the text is the argument. */
public final class LanguageTest {
    private static final String[] FACE = {
        "hash", "sketch", "addTyped", "type", "typeRow", "wipe", "merge", "kind", "seen", "isSame", "may", "ones",
        "register", "distinct", "count", "heavyAt", "error", "excess", "rank", "quantile", "kept", "keptAt",
        "sampleAt", "tick", "within", "bucketAt", "leastAt", "likeness", "subtract", "peeled", "peeledAt", "isClean",
        "filterFailures", "cellFailures", "leastBits", "seenShare", "checksum", "isSound"
    };

    public static void main(String[] arguments) throws IOException {
        Path path = Path.of(arguments.length > 0 ? arguments[0] : "src/main/java/Sketchery.java");
        String text = withoutComments(Files.readString(path));
        face();
        members();
        words(text);
        methods(text);
        Check.end("LanguageTest");
    }

    private static String withoutComments(String text) {
        return text.replaceAll("(?s)/\\*.*?\\*/", "").replaceAll("//[^\n]*", "");
    }

    private static void face() {
        Check.same("public final", true, Modifier.isPublic(Sketchery.class.getModifiers())
            && Modifier.isFinal(Sketchery.class.getModifiers()));
        Set<String> due = new TreeSet<>(List.of(FACE));
        Set<String> got = new TreeSet<>();
        for (Method method : Sketchery.class.getDeclaredMethods()) {
            if (Modifier.isPublic(method.getModifiers())) {
                got.add(method.getName());
            } else {
                Check.same("private: " + method, true, Modifier.isPrivate(method.getModifiers()));
                Check.same("another name: " + method, false, due.contains(method.getName()));
            }
        }
        Check.same("the face", due, got);
        for (Constructor<?> constructor : Sketchery.class.getDeclaredConstructors()) {
            Check.same("one constructor", 0, constructor.getParameterCount());
        }
        for (Field field : Sketchery.class.getDeclaredFields()) {
            Check.same("private: " + field, true, Modifier.isPrivate(field.getModifiers()));
        }
    }

    private static void members() {
        Class<?>[] inside = Sketchery.class.getDeclaredClasses();
        Check.same("some twelve classes", true, inside.length < 12);
        List<Class<?>> all = new ArrayList<>(List.of(inside));
        all.add(Sketchery.class);
        Set<String> names = new HashSet<>(List.of(FACE));
        for (Class<?> each : all) {
            int fields = 0;
            for (Field field : each.getDeclaredFields()) {
                boolean isStatic = Modifier.isStatic(field.getModifiers());
                fields += isStatic ? 0 : 1;
                Check.same("static ones are final: " + field, true,
                    !isStatic || Modifier.isFinal(field.getModifiers()));
            }
            Check.same("some twenty fields: " + each, true, fields <= 20);
            for (Method method : each.getDeclaredMethods()) {
                Check.same("seven parameters at most: " + method, true, method.getParameterCount() <= 7);
                Check.same("a name of its own: " + method, true,
                    each == Sketchery.class || !names.contains(method.getName()));
            }
            if (each != Sketchery.class) {
                Check.same("static: " + each, true, Modifier.isStatic(each.getModifiers()));
                Check.same("not public: " + each, false, Modifier.isPublic(each.getModifiers()));
            }
        }
    }

    private static void words(String text) {
        String[] never = {
            "->", "::", "\\btry\\b", "\\bcatch\\b", "\\bfinally\\b", "\\bsynchronized\\b", "\\bassert\\b", "\\bpackage\\b",
            "\\bprotected\\b", "@", "\\bSystem\\.(?!arraycopy)", "\\bThread\\b", "\\bRandom\\b", "Exact\\b", "\\bObject\\b",
            "\\bStringBuilder\\b", "\\bequals\\b", "\\bhashCode\\b", "\\btoString\\b", "static \\{", "\\bvar\\b"
        };
        for (String each : never) {
            Matcher matcher = Pattern.compile(each).matcher(text);
            Check.same("not in the text: " + each, false, matcher.find());
        }
        Matcher imports = Pattern.compile("import ([^;]*);").matcher(text);
        while (imports.find()) {
            Check.same("import", true, List.of("java.util.Arrays", "java.util.NoSuchElementException")
                .contains(imports.group(1)));
        }
        Matcher throwing = Pattern.compile("\\bthrow\\b([^;]*);").matcher(text);
        while (throwing.find()) {
            Check.same("a throw: " + throwing.group(1), true,
                throwing.group(1).matches(" new \\w+Exception\\((\"[^\"]*\")?\\)"));
        }
        for (int i = 0; i < text.length(); i++) {
            if (text.charAt(i) > 127) {
                Check.same("signs", 127, text.charAt(i));
            }
        }
    }

    /** By the indentation, as the text is laid out with four blanks a level. */
    private static void methods(String text) {
        int length = 0;
        boolean isInside = false;
        for (String line : text.split("\n")) {
            if (line.matches(" {4}( {4})?\\S.*\\) ?(throws .*)?\\{") && !line.contains("class ")) {
                isInside = true;
                length = 0;
            }
            length++;
            if (isInside && line.matches(" {4}( {4})?\\}")) {
                Check.same("a short method that ends with line " + line, true, length <= 60);
                isInside = false;
            }
        }
    }
}
