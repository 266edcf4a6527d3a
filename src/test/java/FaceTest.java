import java.lang.reflect.Constructor;
import java.lang.reflect.Field;
import java.lang.reflect.Method;
import java.lang.reflect.Modifier;
import java.util.Arrays;
import java.util.TreeSet;

/** The class has the document's face and no other member that can be seen from outside. */
public final class FaceTest {
    private static final String[] FACE = {
        "public boolean isTold(int)",
        "public boolean may(int, int, boolean)",
        "public int at(int)",
        "public int look(int)",
        "public int move(int, long)",
        "public int pass()",
        "public int skip(int)",
        "public int write(int)",
        "public long row(int, int)",
    };

    private final Checks checks = new Checks();

    public static void main(String[] args) {
        FaceTest test = new FaceTest();
        test.theClass();
        test.theConstructor();
        test.theMethods();
        test.noFieldIsSeen();
        test.noPrivateMethodBearsThePublicOnesNames();
        test.checks.end();
    }

    private void theClass() {
        int modifiers = DayDesk.class.getModifiers();
        checks.due("public", Modifier.isPublic(modifiers), true);
        checks.due("final", Modifier.isFinal(modifiers), true);
        checks.due("its package", DayDesk.class.getPackageName(), "");
        checks.due("what it extends", DayDesk.class.getSuperclass().getName(), "java.lang.Object");
        checks.due("what it implements", DayDesk.class.getInterfaces().length, 0);
    }

    private void theConstructor() {
        Constructor<?>[] constructors = DayDesk.class.getDeclaredConstructors();
        checks.due("constructors", constructors.length, 1);
        for (Constructor<?> constructor : constructors) {
            checks.due("the constructor is public", Modifier.isPublic(constructor.getModifiers()), true);
            checks.due("what it is given", constructor.getParameterCount(), 0);
            checks.due("what it declares to throw", constructor.getExceptionTypes().length, 0);
        }
    }

    private void theMethods() {
        TreeSet<String> seen = new TreeSet<>();
        for (Method method : DayDesk.class.getDeclaredMethods()) {
            if (isSeen(method)) {
                seen.add(shown(method));
            }
        }
        checks.due("methods", seen.toString(), new TreeSet<>(Arrays.asList(FACE)).toString());
    }

    private static boolean isSeen(Method method) {
        return !Modifier.isPrivate(method.getModifiers()) && !method.isSynthetic();
    }

    /** With its modifiers and what it declares to throw, so that public int pass() is nothing else. */
    private static String shown(Method method) {
        return method.toString().replace("DayDesk.", "").replace(",", ", ");
    }

    private void noFieldIsSeen() {
        for (Field field : DayDesk.class.getDeclaredFields()) {
            checks.due(field.getName() + " is private", Modifier.isPrivate(field.getModifiers()), true);
        }
    }

    private void noPrivateMethodBearsThePublicOnesNames() {
        for (Method method : DayDesk.class.getDeclaredMethods()) {
            for (Method other : DayDesk.class.getDeclaredMethods()) {
                boolean bearsIt = isSeen(method) && !isSeen(other) && method.getName().equals(other.getName());
                checks.due("private " + other.getName() + " bears a public name", bearsIt, false);
            }
        }
    }
}
