import java.lang.reflect.Constructor;
import java.lang.reflect.Field;
import java.lang.reflect.Method;
import java.lang.reflect.Modifier;
import java.util.Arrays;
import java.util.TreeSet;
import java.util.stream.Collectors;

/** The public face, name by name, with the exceptions that it declares; and no member beside it. */
public final class FaceTest {
    private static final Check CHECK = new Check("FaceTest");
    private static final String A = " throws IllegalArgumentException";
    private static final String S = " throws IllegalStateException";
    private static final String I = " throws IndexOutOfBoundsException";
    private static final String A_S = A + ", IllegalStateException";
    private static final String I_A = I + ", IllegalArgumentException";
    private static final String S_I = S + ", IndexOutOfBoundsException";
    private static final String[] FACE = {
        "int feed(long, int)" + A_S, "int fill(int, int)" + A_S, "int cut(int)" + A, "int set(int, int)" + I_A,
        "int size()", "int byteAt(int)" + I, "int setWindow(int)" + A, "boolean setLengths(int, int)" + A,
        "int setPrice(int)" + A, "int longest(int)" + I, "int nearest(int)" + I, "int common(int, int)" + I_A,
        "int widthOf(int)" + A, "int best()", "int greedy()", "int lazy()", "boolean hasPlan()", "int tokenCount()" + S,
        "int kind(int)" + S_I, "int length(int)" + S_I, "int distance(int)" + S_I, "int start(int)" + S_I,
        "int made(int)" + S_I, "double ratio()" + S, "int write()" + S, "int bitCount()", "int bit(int)" + I,
        "int flip(int)" + I, "int appendBits(int, int)" + A_S, "int cutBits(int)" + A, "int read()",
        "int errorPosition()", "int outputSize()", "int output(int)" + I, "int differences()", "long digest()"};

    public static void main(String[] args) {
        Class<?> coder = MatchCoder.class;
        CHECK.same("MatchCoder's modifiers", Modifier.toString(coder.getModifiers()), "public final");
        methods(coder);
        for (Field field : coder.getDeclaredFields()) {
            CHECK.same(field.getName() + " is private", Modifier.isPrivate(field.getModifiers()), true);
        }
        Constructor<?>[] constructors = coder.getDeclaredConstructors();
        CHECK.same("the number of constructors", constructors.length, 1);
        CHECK.same("the constructor", constructors[0].toString(), "public MatchCoder()");
        inside(coder);
        for (Class<?> one : coder.getDeclaredClasses()) {
            privateNames(one);
        }
        CHECK.end();
    }

    private static void methods(Class<?> coder) {
        TreeSet<String> found = new TreeSet<>();
        for (Method method : coder.getDeclaredMethods()) {
            if (!Modifier.isPrivate(method.getModifiers())) {
                found.add(signature(method));
                CHECK.same(method.getName() + "'s modifiers", Modifier.toString(method.getModifiers()), "public");
            }
        }
        CHECK.same("the face", found, new TreeSet<>(Arrays.asList(FACE)));
        privateNames(coder);
    }

    private static void privateNames(Class<?> one) {
        for (Method method : one.getDeclaredMethods()) {
            if (Modifier.isPrivate(method.getModifiers())) {
                boolean ofFace = Arrays.stream(FACE).anyMatch(line -> line.contains(" " + method.getName() + "("));
                CHECK.same(one.getSimpleName() + "." + method.getName() + " bears a name of the face", ofFace, false);
            }
        }
    }

    private static String signature(Method method) {
        String parameters = list(method.getParameterTypes());
        String exceptions = list(method.getExceptionTypes());
        return method.getReturnType() + " " + method.getName() + "(" + parameters + ")"
                + (exceptions.isEmpty() ? "" : " throws " + exceptions);
    }

    private static String list(Class<?>[] types) {
        return Arrays.stream(types).map(Class::getSimpleName).collect(Collectors.joining(", "));
    }

    private static void inside(Class<?> coder) {
        Class<?>[] classes = coder.getDeclaredClasses();
        CHECK.same("at most twelve classes inside", classes.length <= 12, true);
        for (Class<?> one : classes) {
            int modifiers = one.getModifiers();
            boolean hidden = !Modifier.isPublic(modifiers) && !Modifier.isProtected(modifiers);
            CHECK.same(one.getSimpleName() + " is static and hidden", hidden && Modifier.isStatic(modifiers), true);
            for (Field field : one.getDeclaredFields()) {
                boolean fine = !Modifier.isStatic(field.getModifiers()) || Modifier.isFinal(field.getModifiers());
                CHECK.same(field.getName() + " is final if static", fine, true);
            }
        }
    }
}
