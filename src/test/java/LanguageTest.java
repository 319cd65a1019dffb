import java.nio.file.Files;
import java.nio.file.Path;
import java.util.Set;
import java.util.TreeSet;
import java.util.regex.Matcher;
import java.util.regex.Pattern;

/** Those rules of ../shared/LANGUAGE.md that the text of the class shows. */
public final class LanguageTest {
    private static final Set<String> IMPORTS = Set.of("java.util.Arrays", "java.util.NoSuchElementException",
            "java.util.ArrayList", "java.util.List");
    private static final Set<String> THROWN = Set.of("IllegalStateException", "IllegalArgumentException",
            "IndexOutOfBoundsException", "ArithmeticException", "UnsupportedOperationException",
            "NoSuchElementException", "RuntimeException");
    private static final String[] RULED_OUT = {"->", "::", "\\bcatch\\b", "\\bfinally\\b", "\\bsynchronized\\b",
        "\\bassert\\b", "\\bpackage\\b", "\\bprotected\\b", "\\bpublic static\\b", "Exact\\(", "\\bgetMessage\\b",
        "\\bThread\\b", "\\bnanoTime\\b", "\\bcurrentTimeMillis\\b", "\\bhashCode\\b", "\\bstatic \\{", "\\bMath\\.random"};

    public static void main(String[] args) throws Exception {
        String text = Files.readString(Path.of("src/main/java/VideoBridge.java"));
        Check.same("signs that are not 1 to 127", -1, firstForeignSign(text));
        String code = text.replaceAll("(?s)/\\*.*?\\*/", "").replaceAll("//[^\n]*", "");
        for (String sign : RULED_OUT) {
            Check.same(sign, new TreeSet<String>(), found(code, sign, 0));
        }
        TreeSet<String> imports = found(code, "import ([\\w.*]+);", 1);
        imports.removeAll(IMPORTS);
        Check.same("imports", new TreeSet<String>(), imports);
        TreeSet<String> thrown = found(code, "throw new (\\w+)\\((\"[^\"]*\")?\\);", 1);
        thrown.removeAll(THROWN);
        Check.same("thrown", new TreeSet<String>(), thrown);
        Check.same("other throws", count(code, "\\bthrow\\b"), count(code, "throw new \\w+\\((\"[^\"]*\")?\\);"));
        Check.same("static fields that are not final", 0,
                count(code, "\\bstatic (?!final|class)[\\w\\[\\]<>]+ \\w+ *(=|;)"));
        Check.end();
    }

    private static int firstForeignSign(String text) {
        for (int i = 0; i < text.length(); i++) {
            if (text.charAt(i) < 1 || text.charAt(i) > 127) {
                return i;
            }
        }
        return -1;
    }

    private static TreeSet<String> found(String code, String sign, int group) {
        TreeSet<String> all = new TreeSet<>();
        Matcher matcher = Pattern.compile(sign).matcher(code);
        while (matcher.find()) {
            all.add(matcher.group(group));
        }
        return all;
    }

    private static int count(String code, String sign) {
        return (int) Pattern.compile(sign).matcher(code).results().count();
    }
}
