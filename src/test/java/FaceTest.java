import java.lang.reflect.Member;
import java.lang.reflect.Method;
import java.lang.reflect.Modifier;
import java.util.Arrays;
import java.util.TreeSet;

/** The class has the document's face and no other member that can be seen from outside. */
public final class FaceTest {
    private static final String[] FACE = {
        "boolean isTold(int)",
        "boolean may(int, int, boolean)",
        "int at(int)",
        "int look(int)",
        "int move(int, long)",
        "int pass()",
        "int skip(int)",
        "int write(int)",
        "long row(int, int)",
    };

    public static void main(String[] args) {
        Checks checks = new Checks();
        int modifiers = DayDesk.class.getModifiers();
        checks.due("public final", Modifier.isPublic(modifiers) && Modifier.isFinal(modifiers), true);
        checks.due("constructors", DayDesk.class.getDeclaredConstructors().length, 1);
        checks.due("public constructors", DayDesk.class.getConstructors().length, 1);
        checks.due("methods", seenMethods().toString(), new TreeSet<>(Arrays.asList(FACE)).toString());
        for (Member field : DayDesk.class.getDeclaredFields()) {
            checks.due(field.getName() + " is private", Modifier.isPrivate(field.getModifiers()), true);
        }
        checks.end();
    }

    private static TreeSet<String> seenMethods() {
        TreeSet<String> seen = new TreeSet<>();
        for (Method method : DayDesk.class.getDeclaredMethods()) {
            if (Modifier.isPrivate(method.getModifiers()) || method.isSynthetic()) {
                continue;
            }
            String types = Arrays.toString(method.getParameterTypes());
            seen.add(method.getReturnType() + " " + method.getName() + "(" + types.substring(1, types.length() - 1) + ")");
        }
        return seen;
    }
}
