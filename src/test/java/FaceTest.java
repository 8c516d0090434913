import java.lang.reflect.Constructor;
import java.lang.reflect.Field;
import java.lang.reflect.Member;
import java.lang.reflect.Method;
import java.lang.reflect.Modifier;
import java.util.Arrays;
import java.util.TreeSet;

/** The public face: what the document lists, with its exceptions, and nothing else that is not private. */
public final class FaceTest {
    private static final String I = "IndexOutOfBoundsException";
    private static final String A = "IllegalArgumentException";
    private static final String U = "UnsupportedOperationException";
    private static final String S = "IllegalStateException";
    private static final String N = "NoSuchElementException";
    private static final String R = "ArithmeticException";
    private static final String[] FACE = {
        "int type(char): " + A + " " + S,
        "char back(): " + U,
        "int wipe():",
        "int add(int): " + I + " " + U + " " + A + " " + S,
        "int drop(int): " + I + " " + U + " " + N,
        "boolean has(int): " + I,
        "int size(int): " + I,
        "int setCount(int int): " + I + " " + A + " " + U + " " + N,
        "int countOf(int int): " + I + " " + N,
        "int states(int): " + I,
        "int edges(int): " + I,
        "int beginnings(int): " + I,
        "int shared(int int): " + I,
        "int number(int): " + I + " " + U + " " + N,
        "int lengthOf(int int): " + I + " " + N,
        "char letterOf(int int int): " + I + " " + N,
        "int beginning(int): " + I + " " + U,
        "int setGap(int): " + A,
        "int setPrice(char char int): " + A,
        "int distance(int int): " + I + " " + U + " " + N,
        "int near(int int): " + I + " " + A + " " + U,
        "int nearAt(int int int): " + I + " " + A + " " + U + " " + N,
        "int matches(int): " + I,
        "int matchAt(int int): " + I + " " + N,
        "int inBag(int): " + I + " " + U,
        "int anagrams(int): " + I + " " + U,
        "int addRule(int): " + A + " " + U + " " + S,
        "int readings(int): " + I + " " + U,
        "int readingWord(int int): " + I + " " + U + " " + N,
        "int readingRule(int int): " + I + " " + U + " " + N,
        "int joins(int): " + I + " " + U,
        "int squares(int int): " + I + " " + A,
        "int squareAt(int int int int): " + I + " " + A + " " + N,
        "int keep(int): " + I + " " + S,
        "int lay(int int): " + I,
        "int added(int int): " + I,
        "int dropped(int int): " + I,
        "int packed(int): " + I,
        "char packedAt(int int): " + I + " " + N,
        "long checksum():",
        "float stateShare(int): " + I + " " + R,
        "double meanLength(int): " + I + " " + R,
        "boolean isSound():",
    };

    private static final Check check = new Check();

    public static void main(String[] args) {
        TreeSet<String> due = new TreeSet<>(Arrays.asList(FACE));
        TreeSet<String> got = new TreeSet<>();
        TreeSet<String> names = new TreeSet<>();
        for (Method method : Leastlex.class.getDeclaredMethods()) {
            if (Modifier.isPublic(method.getModifiers())) {
                got.add(faceOf(method));
                names.add(method.getName());
            }
        }
        check.same("the face", String.join("\n", due), String.join("\n", got));
        for (Method method : Leastlex.class.getDeclaredMethods()) {
            boolean isPublic = Modifier.isPublic(method.getModifiers());
            check.same(method + " is public or private", true, isPublic || Modifier.isPrivate(method.getModifiers()));
            check.same(method + " has a name of its own", isPublic, names.contains(method.getName()));
        }
        for (Field field : Leastlex.class.getDeclaredFields()) {
            check.same(field + " is private", true, Modifier.isPrivate(field.getModifiers()));
            hasNoMovingStatic(field);
        }
        Constructor<?>[] makers = Leastlex.class.getDeclaredConstructors();
        check.same("one constructor", "public Leastlex()", makers.length == 1 ? makers[0].toString() : "others");
        check.same("the class", Modifier.PUBLIC | Modifier.FINAL, Leastlex.class.getModifiers());
        for (Class<?> inner : Leastlex.class.getDeclaredClasses()) {
            check.same(inner + " is static", true, Modifier.isStatic(inner.getModifiers()));
            for (Field field : inner.getDeclaredFields()) {
                hasNoMovingStatic(field);
            }
            for (Method method : inner.getDeclaredMethods()) {
                check.same(method + " has a name of its own", false, names.contains(method.getName()));
            }
        }
        check.end();
    }

    private static void hasNoMovingStatic(Member field) {
        int modifiers = field.getModifiers();
        check.same(field + " may be static", true, !Modifier.isStatic(modifiers) || Modifier.isFinal(modifiers));
    }

    private static String faceOf(Method method) {
        StringBuilder face = new StringBuilder(method.getReturnType() + " " + method.getName() + "(");
        for (Class<?> kind : method.getParameterTypes()) {
            face.append(face.charAt(face.length() - 1) == '(' ? "" : " ").append(kind);
        }
        face.append("):");
        for (Class<?> kind : method.getExceptionTypes()) {
            face.append(' ').append(kind.getSimpleName());
        }
        return face.toString();
    }
}
