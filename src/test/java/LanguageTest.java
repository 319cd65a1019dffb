import java.lang.reflect.Executable;
import java.lang.reflect.Field;
import java.lang.reflect.Modifier;
import java.nio.file.Files;
import java.nio.file.Path;
import java.util.ArrayList;
import java.util.Arrays;
import java.util.List;
import java.util.Set;
import java.util.TreeSet;
import java.util.regex.Matcher;
import java.util.regex.Pattern;

/** Those rules of ../shared/LANGUAGE.md that the text of the class and its parts show. */
public final class LanguageTest {
    private static final Set<String> IMPORTS = Set.of("java.util.Arrays", "java.util.NoSuchElementException",
            "java.util.ArrayList", "java.util.List");
    private static final Set<String> THROWN = Set.of("IllegalStateException", "IllegalArgumentException",
            "IndexOutOfBoundsException", "ArithmeticException", "UnsupportedOperationException",
            "NoSuchElementException", "RuntimeException");
    private static final Set<String> LIBRARY = Set.of("Arrays.copyOf", "Arrays.copyOfRange", "Arrays.fill",
            "System.arraycopy", "List.of", "Integer.compare", "Long.compare", "Math.max", "Math.min", "Math.abs",
            "Math.floorDiv", "Math.floorMod");
    private static final Set<Class<?>> CONSTANTS = Set.of(int.class, long.class, boolean.class, char.class,
            String.class, int[].class, long[].class, char[].class, byte[].class);
    private static final int MOST_CLASSES = 12;
    private static final int MOST_FIELDS = 20;
    private static final int MOST_PARAMETERS = 7;
    private static final int MOST_LINES = 60;
    private static final String[] RULED_OUT = {"->", "::", "\\bcatch\\b", "\\bfinally\\b", "\\bsynchronized\\b",
        "\\bassert\\b", "\\bpackage\\b", "\\bprotected\\b", "\\bpublic static\\b", "Exact\\(", "\\bgetMessage\\b",
        "\\bThread\\b", "\\bnanoTime\\b", "\\bcurrentTimeMillis\\b", "\\bhashCode\\b", "\\bstatic \\{", "\\bMath\\.random"};

    public static void main(String[] args) throws Exception {
        String text = Files.readString(Path.of("src/main/java/VideoBridge.java"));
        Check.same("signs that are not 1 to 127", -1, firstForeignSign(text));
        String code = text.replaceAll("(?s)/\\*.*?\\*/", "").replaceAll("//[^\n]*", "");
        for (String sign : RULED_OUT) {
            Check.same(sign, new TreeSet<String>(), found(code, sign, 0));
        }
        TreeSet<String> imports = found(code, "import ([\\w.*]+);", 1);
        imports.removeAll(IMPORTS);
        Check.same("imports", new TreeSet<String>(), imports);
        TreeSet<String> thrown = found(code, "throw new (\\w+)\\((\"[^\"]*\")?\\);", 1);
        thrown.removeAll(THROWN);
        Check.same("thrown", new TreeSet<String>(), thrown);
        Check.same("other throws", count(code, "\\bthrow\\b"), count(code, "throw new \\w+\\((\"[^\"]*\")?\\);"));
        Check.same("static fields that are not final", 0,
                count(code, "\\bstatic (?!final|class)[\\w\\[\\]<>]+ \\w+ *(=|;)"));
        TreeSet<String> library = found(code, "\\b(?:Arrays|System|List|String|Integer|Long|Math)\\.\\w+", 0);
        library.removeAll(LIBRARY);
        Check.same("library", new TreeSet<String>(), library);
        Check.same("methods that are too long", List.of(), longMethods(code));
        classesAreSmall();
        Check.end();
    }

    private static List<String> longMethods(String code) {
        List<String> found = new ArrayList<>();
        String[] lines = code.split("\n");
        int depth = 0;
        int body = 1;
        int start = 0;
        for (int i = 0; i < lines.length; i++) {
            int before = depth;
            depth += count(lines[i], "\\{") - count(lines[i], "\\}");
            if (lines[i].matches(".*\\bclass \\w+.*\\{")) {
                body = depth;
            } else if (depth < body) {
                body = depth;
            } else if (before == body && depth > body) {
                start = i;
            } else if (before > body && depth == body && i - start >= MOST_LINES) {
                found.add(lines[start].trim());
            }
        }
        return found;
    }

    private static void classesAreSmall() {
        List<Class<?>> classes = new ArrayList<>(List.of(VideoBridge.class));
        classes.addAll(List.of(VideoBridge.class.getDeclaredClasses()));
        Check.same("too many classes", false, classes.size() > MOST_CLASSES);
        for (Class<?> one : classes) {
            int fields = 0;
            for (Field field : one.getDeclaredFields()) {
                boolean still = Modifier.isStatic(field.getModifiers());
                fields += still ? 0 : 1;
                Check.same(field.toString(), true, !still || CONSTANTS.contains(field.getType()));
            }
            Check.same("too many fields in " + one, false, fields > MOST_FIELDS);
            List<Executable> calls = new ArrayList<>(Arrays.asList(one.getDeclaredMethods()));
            calls.addAll(Arrays.asList(one.getDeclaredConstructors()));
            for (Executable call : calls) {
                Check.same(call.toString(), false, call.getParameterCount() > MOST_PARAMETERS);
            }
        }
    }

    private static int firstForeignSign(String text) {
        for (int i = 0; i < text.length(); i++) {
            if (text.charAt(i) < 1 || text.charAt(i) > 127) {
                return i;
            }
        }
        return -1;
    }

    private static TreeSet<String> found(String code, String sign, int group) {
        TreeSet<String> all = new TreeSet<>();
        Matcher matcher = Pattern.compile(sign).matcher(code);
        while (matcher.find()) {
            all.add(matcher.group(group));
        }
        return all;
    }

    private static int count(String code, String sign) {
        return (int) Pattern.compile(sign).matcher(code).results().count();
    }
}
