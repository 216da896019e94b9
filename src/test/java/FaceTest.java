import java.lang.reflect.Constructor;
import java.lang.reflect.InvocationTargetException;
import java.lang.reflect.Method;
import java.lang.reflect.Modifier;
import java.util.Arrays;
import java.util.Random;
import java.util.TreeSet;

/** The public face is the document's, and a call with any arguments throws nothing but what it names. */
public final class FaceTest {
    private static final Check CHECK = new Check("FaceTest");
    private static final String A = "IllegalArgumentException";
    private static final String S = "IllegalStateException";
    private static final String I = "IndexOutOfBoundsException";
    private static final String N = "NoSuchElementException";
    private static final String U = "UnsupportedOperationException";
    private static final String[] FACE = {
        "int type(char) " + A + " " + S, "int clear()", "int fault()", "int addRow() " + A + " " + S,
        "int replace(int) " + I + " " + A, "int setNumber(char int int) " + A + " " + I,
        "boolean setFlat(int boolean) " + I, "int rows(int) " + I, "boolean closes(int) " + I,
        "int loops(int int) " + I + " " + N, "char stitch(int int int) " + I, "char seen(int int int) " + I,
        "char colourOf(int int int) " + I, "int parent(int int int int) " + I + " " + N,
        "int children(int int int) " + I, "boolean isBound(int int int) " + I, "int unravel(int int) " + I,
        "boolean falls(int int int int) " + I, "int rootOf(int int int) " + I + " " + N, "int crossings(int) " + I,
        "boolean areAlike(int int int int) " + I + " " + N + " " + U, "boolean mark(int int int) " + I,
        "int undone(int) " + I, "int yarn(int char) " + I + " " + A, "int setBall(int) " + A,
        "int ballEnd(int char int) " + I + " " + A + " " + N, "int setFloat(int) " + A,
        "int longest(int int) " + I + " " + N, "int catches(int) " + I, "int setGauge(int) " + A,
        "int width(int int) " + I + " " + N, "int shapeRow(int int int) " + A + " " + I,
        "int hang(int) " + I + " " + U, "int rack(int) " + A + " " + U,
        "int transfer(boolean int) " + I + " " + N + " " + U, "int onNeedle(boolean int int) " + I + " " + N,
        "int acts()", "int leastActs(int) " + I + " " + U + " " + N, "long checksum()", "float closedShare()",
        "double meanLoops()", "boolean isSound()"};

    public static void main(String[] args) throws IllegalAccessException {
        CHECK.eq("final", Modifier.isFinal(Stitchwright.class.getModifiers()), true);
        TreeSet<String> got = new TreeSet<>();
        for (Method method : Stitchwright.class.getDeclaredMethods()) {
            if (!Modifier.isPrivate(method.getModifiers())) {
                CHECK.eq(method + " is public", Modifier.isPublic(method.getModifiers()), true);
                got.add(signature(method));
            }
        }
        CHECK.eq("the methods", got, new TreeSet<>(Arrays.asList(FACE)));
        Constructor<?>[] constructors = Stitchwright.class.getDeclaredConstructors();
        CHECK.eq("one constructor", constructors.length, 1);
        CHECK.eq("public and of nothing", constructors[0].toString(), "public Stitchwright()");
        CHECK.eq("no fields", Stitchwright.class.getFields().length, 0);
        for (int seed = 0; seed < 300; seed++) {
            callAnything(new Random(seed));
        }
        CHECK.end();
    }

    private static String signature(Method method) {
        StringBuilder text = new StringBuilder(method.getReturnType().getSimpleName());
        text.append(' ').append(method.getName()).append('(');
        for (Class<?> type : method.getParameterTypes()) {
            text.append(text.charAt(text.length() - 1) == '(' ? "" : " ").append(type.getSimpleName());
        }
        text.append(')');
        for (Class<?> type : method.getExceptionTypes()) {
            text.append(' ').append(type.getSimpleName());
        }
        return text.toString();
    }

    private static void callAnything(Random random) throws IllegalAccessException {
        Stitchwright x = new Stitchwright();
        Method[] methods = Stitchwright.class.getMethods();
        Arrays.sort(methods, (a, b) -> a.toString().compareTo(b.toString()));
        for (int call = 0; call < 512; call++) {
            Method method = methods[random.nextInt(methods.length)];
            if (random.nextInt(3) == 0) {
                Told.buffer(x, random.nextBoolean() ? "[k]" : "k2/");
            }
            if (method.getDeclaringClass() != Stitchwright.class) {
                continue;
            }
            Object[] values = new Object[method.getParameterCount()];
            for (int i = 0; i < values.length; i++) {
                values[i] = anyOf(method.getParameterTypes()[i], random);
            }
            try {
                method.invoke(x, values);
            } catch (InvocationTargetException thrown) {
                Class<?> type = thrown.getCause().getClass();
                CHECK.eq(method + Arrays.toString(values) + " may throw " + type,
                        Arrays.asList(method.getExceptionTypes()).contains(type), true);
            }
        }
    }

    private static Object anyOf(Class<?> type, Random random) {
        if (type == boolean.class) {
            return random.nextBoolean();
        }
        if (type == char.class) {
            return random.nextInt(3) > 0 ? "kpxyA[](2abd*/".charAt(random.nextInt(14)) : (char) random.nextInt();
        }
        int kind = random.nextInt(12);
        return kind == 0 ? random.nextInt() : kind == 1 ? Integer.MIN_VALUE : kind == 2 ? Integer.MAX_VALUE
                : kind == 3 ? random.nextInt(400) - 200 : random.nextInt(20) - 3;
    }
}
