import java.lang.reflect.Constructor;
import java.lang.reflect.Field;
import java.lang.reflect.Method;
import java.lang.reflect.Modifier;
import java.util.Arrays;
import java.util.TreeSet;

/** The public face is that of the document, and nothing else of the class can be seen. */
public final class FaceTest {
    private static final String[] METHODS = {"mule(int,int)", "send(int,int)", "rest(int)", "pay(int)",
        "group(int,int,int)", "off(int)", "end(int)", "set(int,int)", "muleOf(int,int)", "groupOf(int,int)",
        "number(int)", "loaves(int)", "why(int,int)", "wanted(int)", "hungry()", "next(int)", "would(int,int)",
        "mean()", "count(int)", "undo()", "type(int)", "clearText()", "fault(int)", "play()"};
    private static final String[] CONSTANTS = {"INVALID_ARGUMENT", "NOT_POSSIBLE", "LIMIT_REACHED", "NOT_FOUND"};

    public static void main(String[] args) throws ReflectiveOperationException {
        Class<?> type = HutLoaves.class;
        Checks.due("public and final", type.getModifiers(), Modifier.PUBLIC | Modifier.FINAL);
        TreeSet<String> methods = new TreeSet<>();
        for (Method m : type.getDeclaredMethods()) {
            if (!Modifier.isPrivate(m.getModifiers())) {
                Checks.due("public " + m.getName(), m.getModifiers(), Modifier.PUBLIC);
                Checks.due("int " + m.getName(), m.getReturnType() == int.class ? 1 : 0, 1);
                methods.add(m.toString().replaceAll(".*HutLoaves\\.", ""));
            }
        }
        Checks.due("methods " + methods, methods.equals(new TreeSet<>(Arrays.asList(METHODS))) ? 1 : 0, 1);
        TreeSet<String> fields = new TreeSet<>();
        for (Field f : type.getDeclaredFields()) {
            if (!Modifier.isPrivate(f.getModifiers())) {
                Checks.due("public " + f.getName(), f.getModifiers(),
                    Modifier.PUBLIC | Modifier.STATIC | Modifier.FINAL);
                fields.add(f.getName());
            }
        }
        Checks.due("fields " + fields, fields.equals(new TreeSet<>(Arrays.asList(CONSTANTS))) ? 1 : 0, 1);
        for (int k = 0; k < CONSTANTS.length; k++) {
            Checks.due(CONSTANTS[k], type.getField(CONSTANTS[k]).getInt(null), -1000001 - k);
        }
        Constructor<?>[] constructors = type.getDeclaredConstructors();
        Checks.due("constructors", constructors.length, 1);
        Checks.due("its arguments", constructors[0].getParameterCount(), 0);
        Checks.due("it is public", constructors[0].getModifiers(), Modifier.PUBLIC);
        for (Class<?> inside : type.getDeclaredClasses()) {
            boolean hidden = !Modifier.isPublic(inside.getModifiers()) && !Modifier.isProtected(inside.getModifiers());
            Checks.due(inside.getName() + " is hidden", hidden ? 1 : 0, 1);
            Checks.due(inside.getName() + " is static", Modifier.isStatic(inside.getModifiers()) ? 1 : 0, 1);
        }
        Checks.finish(FaceTest.class);
    }
}
