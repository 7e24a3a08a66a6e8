import java.lang.reflect.Constructor;
import java.lang.reflect.Field;
import java.lang.reflect.Method;
import java.lang.reflect.Modifier;
import java.util.Set;
import java.util.TreeSet;

/** "The public face": constants and signatures as the document has them, and no public member besides. */
public final class FaceTest {
    private static final String[] CONSTANTS = {
        "UNKNOWN = -1", "BAD = -2", "STATE = -3", "FULL = -4", "FAR = -5", "NONE = -9",
        "NULL = -11", "PLACE = -12", "CAST = -13", "SIZE = -14"};
    private static final String[] METHODS = {
        "unknown(int, int)", "hole(int, int)", "rule(int, int, int)", "part(int, int, int, int)",
        "literal(int, int, int, int)", "stand(int, boolean)", "table(int, int, int)", "tear(int)",
        "cell(int, int, int)", "copy(int, int, int, int, int)", "get(int, int)", "about(int, int)",
        "narrow()", "takes(int)", "step(int, int, int)", "undo(int)", "range(int, int)", "why(int, int)", "reason(int)",
        "solve()", "next()", "answer(int)", "count(int)", "best(int, boolean)", "has(int, int, int)", "core()",
        "line(int)", "says(int, int, int, int)", "forge(int, int, int, int)", "check()", "refutes()", "total(int)"};
    private static final Class<?> FACE = NarrowingKernel.class;
    private static int wrong = 0;

    private static void is(String what, Object want, Object got) {
        if (!want.equals(got)) {
            wrong++;
            System.out.println(what + ": " + got + ", due is " + want);
        }
    }

    private static boolean isSeen(int modifiers) {
        return !Modifier.isPrivate(modifiers);
    }

    private static String parameters(Class<?>[] types) {
        StringBuilder all = new StringBuilder();
        for (Class<?> type : types) {
            all.append(all.length() == 0 ? "" : ", ").append(type.getName());
        }
        return all.toString();
    }

    private static void theClass() {
        is("the class", "public final", Modifier.toString(FACE.getModifiers()));
        is("what it extends", Object.class, FACE.getSuperclass());
        is("what it implements", 0, FACE.getInterfaces().length);
        is("its package", "", FACE.getPackageName());
        for (Class<?> inside : FACE.getDeclaredClasses()) {
            int modifiers = inside.getModifiers();
            is(inside.getName(), false, Modifier.isPublic(modifiers) || Modifier.isProtected(modifiers));
            is(inside.getName() + " is static", true, Modifier.isStatic(modifiers));
        }
    }

    private static void theConstructor() {
        Constructor<?>[] all = FACE.getDeclaredConstructors();
        is("constructors", 1, all.length);
        is("the constructor", "public", Modifier.toString(all[0].getModifiers()));
        is("its parameters", 0, all[0].getParameterCount());
        is("what it throws", 0, all[0].getExceptionTypes().length);
    }

    private static void theConstants() throws IllegalAccessException {
        Set<String> got = new TreeSet<>();
        for (Field field : FACE.getDeclaredFields()) {
            if (isSeen(field.getModifiers())) {
                is(field.getName(), "public static final", Modifier.toString(field.getModifiers()));
                is(field.getName(), int.class, field.getType());
                got.add(field.getName() + " = " + field.getInt(null));
            }
        }
        is("constants", new TreeSet<>(Set.of(CONSTANTS)), got);
    }

    private static void theMethods() {
        Set<String> got = new TreeSet<>();
        for (Method method : FACE.getDeclaredMethods()) {
            if (isSeen(method.getModifiers())) {
                is(method.getName(), "public", Modifier.toString(method.getModifiers()));
                is(method.getName(), int.class, method.getReturnType());
                is(method.getName() + " throws", 0, method.getExceptionTypes().length);
                got.add(method.getName() + "(" + parameters(method.getParameterTypes()) + ")");
            }
        }
        is("methods", new TreeSet<>(Set.of(METHODS)), got);
    }

    public static void main(String[] args) throws IllegalAccessException {
        theClass();
        theConstructor();
        theConstants();
        theMethods();
        System.out.println(wrong == 0 ? "FaceTest: the face is as due" : "FaceTest: " + wrong + " not as due");
        if (wrong != 0) {
            System.exit(1);
        }
    }
}
