import java.lang.reflect.Constructor;
import java.lang.reflect.Field;
import java.lang.reflect.Method;
import java.lang.reflect.Modifier;
import java.util.TreeSet;

/** The public face is the document's and nothing else is seen from outside. */
public final class FaceTest {
    private static final String FACE = "[boolean feed(int), boolean full(), boolean tab(int), int bells(), "
        + "int cells(int,int), int code(int,int), int column(), int feedAll(long), int look(int,int), "
        + "int mode(int), int pen(), int region(), int reply(), int row(), int state(), int title(int), "
        + "int waiting()]";

    public static void main(String[] args) {
        int kind = ScreenDesk.class.getModifiers();
        Probe.same("public and final", Modifier.isPublic(kind) && Modifier.isFinal(kind), true);
        Probe.same("methods", methods().toString(), FACE);
        Constructor<?>[] made = ScreenDesk.class.getDeclaredConstructors();
        Probe.same("constructors", made.length, 1);
        Probe.same("constructor", made[0].toString(), "public ScreenDesk()");
        for (Field field : ScreenDesk.class.getDeclaredFields()) {
            Probe.same("private " + field, Modifier.isPrivate(field.getModifiers()), true);
            if (Modifier.isStatic(field.getModifiers())) {
                Probe.same("final " + field, Modifier.isFinal(field.getModifiers()), true);
            }
        }
        for (Class<?> inside : ScreenDesk.class.getDeclaredClasses()) {
            Probe.same("static " + inside, Modifier.isStatic(inside.getModifiers()), true);
            Probe.same("not public " + inside, Modifier.isPublic(inside.getModifiers()), false);
        }
        Probe.finish();
    }

    private static TreeSet<String> methods() {
        TreeSet<String> seen = new TreeSet<>();
        for (Method method : ScreenDesk.class.getDeclaredMethods()) {
            if (!Modifier.isPrivate(method.getModifiers())) {
                String text = method.getName() + "(";
                for (Class<?> type : method.getParameterTypes()) {
                    text += text.endsWith("(") ? type.getName() : "," + type.getName();
                }
                seen.add(method.getReturnType().getName() + " " + text + ")");
            }
        }
        return seen;
    }
}
