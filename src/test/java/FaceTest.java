import java.lang.reflect.Constructor;
import java.lang.reflect.Field;
import java.lang.reflect.Method;
import java.lang.reflect.Modifier;
import java.util.Arrays;
import java.util.Set;
import java.util.TreeSet;

/** The public face: what the document lists, and nothing beside it that is not private. */
final class FaceTest {
    private static final Set<String> METHODS = new TreeSet<>(Arrays.asList(
        "boolean set(int, int)", "boolean put(int, int)", "void line(boolean)",
        "int run(int) IllegalArgumentException IllegalStateException", "void reset(boolean)",
        "int register(int) NoSuchElementException", "int control(int) NoSuchElementException",
        "int word(int) NoSuchElementException", "int state(int)"));

    public static void main(String[] args) {
        Check check = new Check();
        check.yes("public and final", Modifier.isPublic(HartDesk.class.getModifiers())
            && Modifier.isFinal(HartDesk.class.getModifiers()));
        methods(check);
        fields(check);
        Constructor<?>[] constructors = HartDesk.class.getDeclaredConstructors();
        check.same("constructors", constructors.length, 1);
        check.yes("public, without arguments", Modifier.isPublic(constructors[0].getModifiers())
            && constructors[0].getParameterCount() == 0);
        check.end();
    }

    private static void methods(Check check) {
        Set<String> seen = new TreeSet<>();
        Set<String> names = new TreeSet<>();
        for (Method method : HartDesk.class.getDeclaredMethods()) {
            if (!Modifier.isPrivate(method.getModifiers())) {
                check.yes("public", Modifier.isPublic(method.getModifiers()) && !Modifier.isStatic(method.getModifiers()));
                seen.add(text(method));
                names.add(method.getName());
            }
        }
        check.yes("the methods are " + seen, seen.equals(METHODS));
        for (Method method : HartDesk.class.getDeclaredMethods()) {
            check.yes("no private " + method.getName(),
                !Modifier.isPrivate(method.getModifiers()) || !names.contains(method.getName()));
        }
    }

    private static String text(Method method) {
        StringBuilder text = new StringBuilder(method.getReturnType().getSimpleName() + " " + method.getName() + "(");
        for (int k = 0; k < method.getParameterCount(); k++) {
            text.append(k == 0 ? "" : ", ").append(method.getParameterTypes()[k].getSimpleName());
        }
        text.append(")");
        for (Class<?> each : method.getExceptionTypes()) {
            text.append(" ").append(each.getSimpleName());
        }
        return text.toString();
    }

    private static void fields(Check check) {
        int open = 0;
        for (Field field : HartDesk.class.getDeclaredFields()) {
            if (!Modifier.isPrivate(field.getModifiers())) {
                open++;
                check.yes("NONE", field.getName().equals("NONE") && field.getType() == int.class
                    && Modifier.isPublic(field.getModifiers()) && Modifier.isStatic(field.getModifiers()));
            }
            check.yes(field.getName() + ": static is final", !Modifier.isStatic(field.getModifiers())
                || Modifier.isFinal(field.getModifiers()));
        }
        check.same("open fields", open, 1);
    }
}
