import java.lang.reflect.Constructor;
import java.lang.reflect.Field;
import java.lang.reflect.Method;
import java.lang.reflect.Modifier;
import java.util.Arrays;
import java.util.List;
import java.util.TreeSet;
import java.util.stream.Collectors;

/** The public face: every constructor and method of the document with its exceptions, and nothing else. */
final class FaceTest {
    private static final String I = "IndexOutOfBoundsException";
    private static final String A = " IllegalArgumentException";
    private static final String U = " UnsupportedOperationException";
    private static final String S = " IllegalStateException";
    private static final String N = " NoSuchElementException";
    private static final String R = " ArithmeticException";
    private static final List<String> DUE = List.of(
            "int tell(int, int, int, int) " + I + A + U + S,
            "int untell(int, int, int, int) " + I + A + S,
            "boolean setUnique(int, boolean)" + A,
            "int addRule(int, int, int, int, int, int)" + A + S,
            "int addCondition(int, int, int, int, boolean) " + I + A + S,
            "int turn(int, int, boolean) " + I + U + S,
            "boolean isOn(int, int, int) " + I,
            "int layer(int, int) " + I + A,
            "int knowing(int) " + I,
            "boolean holds(int, int, int, int) " + I + A,
            "boolean holdsAnew(int, int, int, int) " + I + A,
            "int count(int, int, int, int) " + I + A,
            "int spanFrom(int, int, int, int) " + I + A + N,
            "int spanTo(int, int, int, int) " + I + A + N,
            "int since(int, int, int) " + I + A,
            "int rank(int, int, int, int) " + I + A + N,
            "int reason(int, int, int, int) " + I + A + N,
            "int reasonFact(int, int, int, int, int) " + I + A + N,
            "int proof(int, int, int, int) " + I + A + N,
            "int forget(int)" + A,
            "boolean isForgotten(int, int) " + I,
            "int seal(int, int) " + I,
            "int fork(int, int) " + I + S,
            "int merge(int) " + I + A,
            "int conflicts()",
            "int listen(int, int, int, int, int) " + I + A + S,
            "int waiting(int) " + I,
            "int next(int) " + I + N,
            "long hours()",
            "float derivedShare(int, int) " + I + A + R,
            "double meanRank(int, int) " + I + A + R,
            "boolean isSound()");

    private FaceTest() {
    }

    static void run() {
        TreeSet<String> got = new TreeSet<>();
        TreeSet<String> publicNames = new TreeSet<>();
        for (Method method : Versefold.class.getDeclaredMethods()) {
            if (!Modifier.isPrivate(method.getModifiers())) {
                got.add(described(method));
                publicNames.add(method.getName());
            }
        }
        Check.due("the methods", new TreeSet<>(DUE), got);
        Check.due("the class", "public final", Modifier.toString(Versefold.class.getModifiers()));
        Constructor<?>[] constructors = Versefold.class.getDeclaredConstructors();
        Check.due("one constructor", 1, constructors.length);
        Check.due("which is", "public Versefold()", constructors[0].toString());
        for (Field field : Versefold.class.getDeclaredFields()) {
            Check.due("field " + field, true, Modifier.isPrivate(field.getModifiers()));
        }
        for (Class<?> inside : Versefold.class.getDeclaredClasses()) {
            Check.due("class " + inside, true, Modifier.isStatic(inside.getModifiers())
                    && !Modifier.isPublic(inside.getModifiers()) && !Modifier.isProtected(inside.getModifiers()));
        }
        privateNames(Versefold.class, publicNames);
    }

    private static void privateNames(Class<?> of, TreeSet<String> publicNames) {
        for (Class<?> inside : of.getDeclaredClasses()) {
            privateNames(inside, publicNames);
        }
        for (Method method : of.getDeclaredMethods()) {
            Check.due("name of " + method, false,
                    !Modifier.isPublic(method.getModifiers()) && publicNames.contains(method.getName()));
        }
    }

    private static String described(Method method) {
        String parameters = Arrays.stream(method.getParameterTypes()).map(Class::getSimpleName)
                .collect(Collectors.joining(", "));
        String thrown = Arrays.stream(method.getExceptionTypes()).map(c -> " " + c.getSimpleName())
                .collect(Collectors.joining());
        return method.getReturnType().getSimpleName() + " " + method.getName() + "(" + parameters + ")" + thrown;
    }
}
