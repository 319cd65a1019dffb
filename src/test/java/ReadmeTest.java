import java.io.ByteArrayOutputStream;
import java.io.File;
import java.io.IOException;
import java.lang.reflect.Method;
import java.lang.reflect.Modifier;
import java.net.URL;
import java.net.URLClassLoader;
import java.nio.file.Files;
import java.nio.file.Path;
import java.util.ArrayList;
import java.util.List;
import java.util.regex.Matcher;
import java.util.regex.Pattern;
import javax.tools.JavaCompiler;
import javax.tools.ToolProvider;

/** README.md: what its example says behind the calls is what they answer, and it names every call and every test. */
public final class ReadmeTest {
    private static final Pattern ASKED = Pattern.compile("(bridge\\.\\w+\\(.*\\)); +// ([^:]+)(:.*)?");
    private static final String HEAD = "public class Example {\n"
            + "    static String answer(java.util.function.Supplier<Object> call) {\n"
            + "        try {\n"
            + "            return String.valueOf(call.get());\n"
            + "        } catch (RuntimeException e) {\n"
            + "            return \"throws \" + e.getClass().getSimpleName();\n"
            + "        }\n"
            + "    }\n"
            + "    public static void run(java.util.List<String> answers) {\n";
    private static final String FOOT = "    }\n}\n";

    public static void main(String[] args) throws Exception {
        String page = Files.readString(Path.of("README.md"));
        everyCallIsNamed(page);
        everyTestIsNamed(page);
        List<String> asked = new ArrayList<>();
        List<String> answers = new ArrayList<>();
        run(program(exampleOf(page), asked), answers);
        Check.same("answers in the example", true, asked.size() >= 20);
        Check.same("answers to the example", 2 * asked.size(), answers.size());
        for (int i = 0; i < asked.size() && 2 * i + 1 < answers.size(); i++) {
            Check.same(asked.get(i), answers.get(2 * i), answers.get(2 * i + 1));
        }
        Check.end();
    }

    private static void everyCallIsNamed(String page) {
        for (Method method : VideoBridge.class.getDeclaredMethods()) {
            if (Modifier.isPublic(method.getModifiers())) {
                Check.same(method.getName(), true, page.contains("`" + method.getName() + "`"));
            }
        }
    }

    private static void everyTestIsNamed(String page) {
        for (String file : new File("src/test/java").list()) {
            if (file.endsWith("Test.java")) {
                Check.same(file, true, page.contains("`" + file.replace(".java", "") + "`"));
            }
        }
    }

    private static String[] exampleOf(String page) {
        Matcher block = Pattern.compile("```java\n(.*?)```", Pattern.DOTALL).matcher(page);
        return block.find() ? block.group(1).split("\n") : new String[0];
    }

    /** The example as a class that adds, for each line with an answer, the one that is due and the one that came. */
    private static String program(String[] example, List<String> asked) {
        StringBuilder text = new StringBuilder(HEAD);
        for (String line : example) {
            Matcher parts = ASKED.matcher(line);
            if (!parts.matches()) {
                text.append(line).append('\n');
                continue;
            }
            asked.add(line);
            String due = parts.group(2).trim();
            text.append("answers.add(").append(due.startsWith("throws ") ? "\"" + due + "\"" : "\"\" + (" + due + ")")
                    .append(");\n").append("answers.add(answer(() -> ").append(parts.group(1)).append("));\n");
        }
        return text.append(FOOT).toString();
    }

    private static void run(String program, List<String> answers) throws Exception {
        Path folder = Files.createTempDirectory("readme");
        Path source = folder.resolve("Example.java");
        try {
            Files.writeString(source, program);
            JavaCompiler compiler = ToolProvider.getSystemJavaCompiler();
            ByteArrayOutputStream told = new ByteArrayOutputStream();
            int code = compiler.run(null, told, told, "-cp", System.getProperty("java.class.path"),
                    "-d", folder.toString(), source.toString());
            Check.same("the example compiles " + told, 0, code);
            if (code != 0) {
                return;
            }
            try (URLClassLoader loader = new URLClassLoader(new URL[] {folder.toUri().toURL()})) {
                loader.loadClass("Example").getMethod("run", List.class).invoke(null, answers);
            }
        } finally {
            delete(folder);
        }
    }

    private static void delete(Path folder) throws IOException {
        for (File file : folder.toFile().listFiles()) {
            Files.delete(file.toPath());
        }
        Files.delete(folder);
    }
}
