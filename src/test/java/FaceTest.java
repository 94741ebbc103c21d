import java.lang.reflect.Constructor;
import java.lang.reflect.Method;
import java.lang.reflect.Modifier;
import java.util.Arrays;
import java.util.Set;
import java.util.TreeSet;

/** The class has the document's face and no other member that can be seen from outside. */
public final class FaceTest {
    private static final String[] FACE = {
        "int add(int, int, int, int) throws IllegalStateException",
        "void clear()",
        "int seal() throws IllegalStateException",
        "int size()",
        "int source(int, int)",
        "int result(int, int)",
        "long known(int, int)",
        "int needed(int)",
        "int constants() throws IllegalStateException",
        "int repeats() throws IllegalStateException",
        "int unneeded() throws IllegalStateException",
        "boolean poke(int, int, int, int, int)",
        "int compare() throws IllegalStateException",
        "boolean commit()",
        "boolean input(int, int)",
        "int runSource(int)",
        "int runResult(int)",
        "int told(int)",
        "int steps()",
    };

    public static void main(String[] args) {
        Checks checks = new Checks();
        checks.due("the class is public and final",
                BlockCode.class.getModifiers(), Modifier.PUBLIC | Modifier.FINAL);
        Set<String> want = new TreeSet<>(Arrays.asList(FACE));
        Set<String> got = new TreeSet<>();
        Set<String> names = new TreeSet<>();
        for (Method method : BlockCode.class.getDeclaredMethods()) {
            if (!Modifier.isPrivate(method.getModifiers())) {
                got.add(written(method));
                names.add(method.getName());
                checks.due(method + " is public alone", method.getModifiers(), Modifier.PUBLIC);
            }
        }
        if (!got.equals(want)) {
            System.out.println("the face is " + got);
        }
        checks.due("the methods are the document's", got.equals(want), true);
        checkOtherMembers(checks);
        checkPrivateNames(checks, BlockCode.class, names);
        for (Class<?> inside : BlockCode.class.getDeclaredClasses()) {
            checks.due(inside + " is static", Modifier.isStatic(inside.getModifiers()), true);
            checkPrivateNames(checks, inside, names);
        }
        checks.end("FaceTest");
    }

    private static void checkOtherMembers(Checks checks) {
        Constructor<?>[] constructors = BlockCode.class.getDeclaredConstructors();
        checks.due("constructors", constructors.length, 1);
        checks.due("the constructor is public", constructors[0].getModifiers(), Modifier.PUBLIC);
        checks.due("the constructor's parameters", constructors[0].getParameterCount(), 0);
        for (java.lang.reflect.Field field : BlockCode.class.getDeclaredFields()) {
            checks.due(field + " is private", Modifier.isPrivate(field.getModifiers()), true);
            boolean changing = Modifier.isStatic(field.getModifiers())
                    && !Modifier.isFinal(field.getModifiers());
            checks.due(field + " is static and not final", changing, false);
        }
    }

    private static void checkPrivateNames(Checks checks, Class<?> type, Set<String> names) {
        for (Method method : type.getDeclaredMethods()) {
            boolean ofFace = type == BlockCode.class && Modifier.isPublic(method.getModifiers());
            checks.due(method + " bears a name of the face",
                    !ofFace && names.contains(method.getName()), false);
        }
    }

    private static String written(Method method) {
        StringBuilder text = new StringBuilder();
        text.append(method.getReturnType().getSimpleName()).append(' ');
        text.append(method.getName()).append('(');
        String gap = "";
        for (Class<?> type : method.getParameterTypes()) {
            text.append(gap).append(type.getSimpleName());
            gap = ", ";
        }
        text.append(')');
        for (Class<?> type : method.getExceptionTypes()) {
            text.append(" throws ").append(type.getSimpleName());
        }
        return text.toString();
    }
}
