import java.io.IOException;
import java.lang.reflect.Constructor;
import java.lang.reflect.Field;
import java.lang.reflect.Method;
import java.lang.reflect.Modifier;
import java.nio.file.Files;
import java.nio.file.Path;
import java.util.TreeSet;
import java.util.regex.Matcher;
import java.util.regex.Pattern;

/** The public face is the document's and nothing else is seen from outside. */
public final class FaceTest {
    private static final Path DOCUMENT = Path.of("../shared/DOC.md");
    private static final Pattern FACE = Pattern.compile("```java\npublic final class ScreenDesk \\{\n(.*?)\\}\n```", Pattern.DOTALL);

    public static void main(String[] args) throws IOException {
        int kind = ScreenDesk.class.getModifiers();
        Probe.same("public and final", Modifier.isPublic(kind) && Modifier.isFinal(kind), true);
        Probe.same("the face", seen().toString(), promised().toString());
        Probe.same("no class above it", ScreenDesk.class.getSuperclass() == Object.class, true);
        Probe.same("no interface", ScreenDesk.class.getInterfaces().length, 0);
        for (Field field : ScreenDesk.class.getDeclaredFields()) {
            Probe.same("private " + field, Modifier.isPrivate(field.getModifiers()), true);
        }
        for (Class<?> inside : ScreenDesk.class.getDeclaredClasses()) {
            Probe.same("not public " + inside, Modifier.isPublic(inside.getModifiers()), false);
        }
        Probe.finish();
    }

    /** Without the names of the parameters, as a compiled class does not tell them. */
    private static TreeSet<String> promised() throws IOException {
        Matcher face = FACE.matcher(Files.readString(DOCUMENT));
        Probe.same("the document shows a face", face.find(), true);
        TreeSet<String> lines = new TreeSet<>();
        for (String line : face.group(1).strip().split("\\s*\n\\s*")) {
            lines.add(withoutPackages(line.replace(";", "").replaceAll("(int|long) \\w+(?=[,)])", "$1").replace(", ", ",")));
        }
        return lines;
    }

    private static TreeSet<String> seen() {
        TreeSet<String> lines = new TreeSet<>();
        for (Constructor<?> constructor : ScreenDesk.class.getDeclaredConstructors()) {
            lines.add(withoutPackages(constructor.toString()));
        }
        for (Method method : ScreenDesk.class.getDeclaredMethods()) {
            if (!Modifier.isPrivate(method.getModifiers())) {
                lines.add(withoutPackages(method.toString().replace("ScreenDesk.", "")));
            }
        }
        return lines;
    }

    private static String withoutPackages(String line) {
        return line.replace("java.lang.", "").replace("java.util.", "");
    }
}
