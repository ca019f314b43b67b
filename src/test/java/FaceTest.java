import java.io.IOException;
import java.lang.reflect.Constructor;
import java.lang.reflect.Field;
import java.lang.reflect.Method;
import java.lang.reflect.Modifier;
import java.nio.file.Files;
import java.nio.file.Path;
import java.util.TreeSet;

/** The public face: what the document's section of that name lists, and nothing else. */
public final class FaceTest {
    private FaceTest() {
    }

    public static void main(String[] arguments) throws IOException {
        TreeSet<String> due = new TreeSet<>();
        for (String line : Files.readAllLines(Path.of("../shared/DOC.md"))) {
            if (line.startsWith("    public ")) {
                due.add(withoutNames(line.strip()));
            }
        }
        Check.same("members in the document", due.size(), 33);
        TreeSet<String> found = new TreeSet<>();
        for (Method method : LayoutPress.class.getDeclaredMethods()) {
            addFound(found, method.getModifiers(), method.isSynthetic(), signature(method.getReturnType().getName()
                    + " " + method.getName(), method.getParameterTypes(), method.getExceptionTypes()));
        }
        for (Constructor<?> constructor : LayoutPress.class.getDeclaredConstructors()) {
            addFound(found, constructor.getModifiers(), false, signature("LayoutPress",
                    constructor.getParameterTypes(), constructor.getExceptionTypes()));
        }
        for (Field field : LayoutPress.class.getDeclaredFields()) {
            addFound(found, field.getModifiers(), field.isSynthetic(), "static final int " + field.getName() + " = -1");
        }
        Check.sameText("members", found.toString(), due.toString());
        int modifiers = LayoutPress.class.getModifiers();
        Check.that("public and final", Modifier.isPublic(modifiers) && Modifier.isFinal(modifiers));
        checkInside();
        Check.end();
    }

    // No private method bears the name of a public one; a class has some twenty fields.
    private static void checkInside() {
        TreeSet<String> names = new TreeSet<>();
        for (Method method : LayoutPress.class.getDeclaredMethods()) {
            if (Modifier.isPublic(method.getModifiers())) {
                names.add(method.getName());
            }
        }
        for (Method method : LayoutPress.class.getDeclaredMethods()) {
            Check.that("a name of its own: " + method,
                    Modifier.isPublic(method.getModifiers()) || !names.contains(method.getName()));
        }
        for (Class<?> inside : LayoutPress.class.getDeclaredClasses()) {
            Check.that("private and static: " + inside,
                    Modifier.isPrivate(inside.getModifiers()) && Modifier.isStatic(inside.getModifiers()));
            for (Method method : inside.getDeclaredMethods()) {
                Check.that("a name of its own: " + method, !names.contains(method.getName()));
            }
            int fields = 0;
            for (Field field : inside.getDeclaredFields()) {
                fields += Modifier.isStatic(field.getModifiers()) ? 0 : 1;
            }
            Check.that(inside + " has " + fields + " fields", fields <= 20);
        }
    }

    private static void addFound(TreeSet<String> found, int modifiers, boolean synthetic, String text) {
        if (!Modifier.isPrivate(modifiers) && !synthetic) {
            found.add((Modifier.isPublic(modifiers) ? "" : "not public: ") + text);
        }
    }

    private static String signature(String name, Class<?>[] parameters, Class<?>[] exceptions) {
        StringBuilder text = new StringBuilder(name).append('(');
        for (int i = 0; i < parameters.length; i++) {
            text.append(i == 0 ? "" : ", ").append(parameters[i].getName());
        }
        text.append(')');
        for (int i = 0; i < exceptions.length; i++) {
            text.append(i == 0 ? " throws " : ", ").append(exceptions[i].getSimpleName());
        }
        return text.toString();
    }

    private static String withoutNames(String line) {
        String text = line.substring("public ".length()).replace(";", "");
        int open = text.indexOf('(');
        int close = text.indexOf(')');
        if (open < 0) {
            return text;
        }
        return text.substring(0, open) + text.substring(open, close).replaceAll("(\\w+) \\w+", "$1") + text.substring(close);
    }
}
