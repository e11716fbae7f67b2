import java.lang.reflect.Constructor;
import java.lang.reflect.Field;
import java.lang.reflect.Method;
import java.lang.reflect.Modifier;
import java.util.Arrays;
import java.util.Set;
import java.util.TreeSet;

/** The class has the document's constructor and methods, and shows no other member. */
public final class FaceTest {
    private static final String[] METHODS = {
        "int thing(long)", "int step(int)", "boolean uses(int, int)", "boolean makes(int, int)",
        "int session()", "long read(int, int)", "boolean write(int, int, long)",
        "int join(int, boolean)", "long conflict(int, int)", "boolean settle(int, int)",
        "boolean stale(int)", "int branch()", "int from(int, int)", "boolean run(int)",
        "long value(int, int)", "int play(long, int)"};

    private static int wrong = 0;

    public static void main(String[] args) {
        Class<?> face = VersionJoins.class;
        check("the class is public and final",
            Modifier.isPublic(face.getModifiers()) && Modifier.isFinal(face.getModifiers()));
        check("the class is in no package", face.getPackageName().isEmpty());
        Constructor<?>[] constructors = face.getDeclaredConstructors();
        check("one public constructor without parameters", constructors.length == 1
            && Modifier.isPublic(constructors[0].getModifiers()) && constructors[0].getParameterCount() == 0);
        checkMethods(face);
        checkFields(face);
        for (Class<?> inside : face.getDeclaredClasses()) {
            int modifiers = inside.getModifiers();
            check(inside.getName() + " is static and not shown", Modifier.isStatic(modifiers)
                && !Modifier.isPublic(modifiers) && !Modifier.isProtected(modifiers));
        }
        System.out.println(wrong == 0 ? "the face is as due" : wrong + " faults of the face");
        if (wrong != 0) {
            System.exit(1);
        }
    }

    private static void check(String what, boolean holds) {
        if (!holds) {
            wrong++;
            System.out.println("does not hold: " + what);
        }
    }

    private static void checkMethods(Class<?> face) {
        Set<String> shown = new TreeSet<>();
        Set<String> names = new TreeSet<>();
        for (Method method : face.getDeclaredMethods()) {
            if (Modifier.isPrivate(method.getModifiers())) {
                continue;
            }
            check(method.getName() + " is public and no static method",
                Modifier.isPublic(method.getModifiers()) && !Modifier.isStatic(method.getModifiers()));
            check(method.getName() + " declares no exception", method.getExceptionTypes().length == 0);
            names.add(method.getName());
            StringBuilder parameters = new StringBuilder();
            for (Class<?> type : method.getParameterTypes()) {
                parameters.append(parameters.length() == 0 ? "" : ", ").append(type.getName());
            }
            shown.add(method.getReturnType().getName() + " " + method.getName() + "(" + parameters + ")");
        }
        Set<String> due = new TreeSet<>(Arrays.asList(METHODS));
        check("methods " + shown + " are " + due, shown.equals(due));
        for (Method method : face.getDeclaredMethods()) {
            check("no private method is called " + method.getName(),
                !Modifier.isPrivate(method.getModifiers()) || !names.contains(method.getName()));
        }
    }

    private static void checkFields(Class<?> face) {
        for (Field field : face.getDeclaredFields()) {
            int modifiers = field.getModifiers();
            check("field " + field.getName() + " is private", Modifier.isPrivate(modifiers));
            check("static field " + field.getName() + " is final",
                !Modifier.isStatic(modifiers) || Modifier.isFinal(modifiers));
        }
    }
}
