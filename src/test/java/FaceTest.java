import java.lang.reflect.Constructor;
import java.lang.reflect.Field;
import java.lang.reflect.Method;
import java.lang.reflect.Modifier;
import java.nio.file.Files;
import java.nio.file.Path;
import java.util.ArrayList;
import java.util.Arrays;
import java.util.List;
import java.util.TreeSet;

/** The face is the one that the document prints, and nothing else can be seen from outside. */
public final class FaceTest {
    public static void main(String[] args) throws Exception {
        Check.same(faceOfTheDocument(), faceOfTheClass());
        Check.same(true, Modifier.isFinal(VideoBridge.class.getModifiers()));
        membersOutsideAreThoseOfTheFace();
        Check.end();
    }

    private static TreeSet<String> faceOfTheDocument() throws Exception {
        TreeSet<String> face = new TreeSet<>();
        for (String line : Files.readAllLines(Path.of("../shared/DOC.md"))) {
            if (line.startsWith("    public ")) {
                face.add(line.trim().replaceAll("int \\w+([,)])", "int$1"));
            }
        }
        return face;
    }

    private static TreeSet<String> faceOfTheClass() {
        TreeSet<String> face = new TreeSet<>();
        face.add("public VideoBridge();");
        for (Method method : VideoBridge.class.getDeclaredMethods()) {
            if (Modifier.isPublic(method.getModifiers())) {
                face.add("public " + method.getReturnType() + " " + method.getName()
                        + "(" + names(method.getParameterTypes()) + ")" + thrown(method) + ";");
            }
        }
        return face;
    }

    private static String thrown(Method method) {
        String names = names(method.getExceptionTypes());
        return names.isEmpty() ? "" : " throws " + names;
    }

    private static String names(Class<?>[] types) {
        List<String> names = new ArrayList<>();
        for (Class<?> type : types) {
            names.add(type.getSimpleName());
        }
        return String.join(", ", names);
    }

    private static void membersOutsideAreThoseOfTheFace() {
        TreeSet<String> open = new TreeSet<>();
        TreeSet<String> closed = new TreeSet<>();
        for (Method method : VideoBridge.class.getDeclaredMethods()) {
            int how = method.getModifiers();
            (Modifier.isPrivate(how) ? closed : open).add(method.getName());
            Check.same(method.getName(), true, Modifier.isPublic(how) || Modifier.isPrivate(how));
        }
        closed.retainAll(open);
        Check.same("private methods with a public name", new TreeSet<String>(), closed);
        for (Field field : VideoBridge.class.getDeclaredFields()) {
            Check.same(field.getName(), true, Modifier.isPrivate(field.getModifiers()));
        }
        for (Class<?> inside : VideoBridge.class.getDeclaredClasses()) {
            int how = inside.getModifiers();
            Check.same(inside.getName(), false, Modifier.isPublic(how) || Modifier.isProtected(how));
            Check.same(inside.getName(), true, Modifier.isStatic(how));
        }
        Constructor<?>[] constructors = VideoBridge.class.getDeclaredConstructors();
        Check.same(Arrays.toString(constructors), 1, constructors.length);
        Check.same(true, Modifier.isPublic(constructors[0].getModifiers()));
    }
}
