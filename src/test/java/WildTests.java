import java.lang.reflect.InvocationTargetException;
import java.lang.reflect.Method;
import java.lang.reflect.Modifier;
import java.util.Arrays;
import java.util.Comparator;
import java.util.List;
import java.util.Random;

/** Any call with any arguments in any state throws by its own throw, what the document names for it, or not at all. */
public final class WildTests {
    private static final int OBJECTS = 600;
    private static final int CALLS = 512;
    private static final int[] WILD = {Integer.MIN_VALUE, Integer.MIN_VALUE + 1, Integer.MAX_VALUE - 1,
        Integer.MAX_VALUE, 1 << 30, 40, 41, 60, 61, 64, 198, 199, 342, 343, 344};

    private WildTests() {
    }

    public static void main(String[] args) throws IllegalAccessException {
        List<Method> face = Arrays.stream(HoundlightProofs.class.getDeclaredMethods())
            .filter(method -> Modifier.isPublic(method.getModifiers()))
            .sorted(Comparator.comparing(Method::getName)).toList();
        Random random = new Random(2026);
        for (int object = 0; object < OBJECTS; object++) {
            HoundlightProofs x = new HoundlightProofs();
            int tame = 2 + random.nextInt(30);
            for (int call = 0; call < CALLS; call++) {
                ask(x, face.get(random.nextInt(face.size())), random, tame);
            }
        }
        Check.end("WildTests");
    }

    private static void ask(HoundlightProofs x, Method call, Random random, int tame) throws IllegalAccessException {
        Object[] numbers = new Object[call.getParameterCount()];
        for (int at = 0; at < numbers.length; at++) {
            numbers[at] = random.nextInt(tame) == 0 ? WILD[random.nextInt(WILD.length)]
                : random.nextInt(3) == 0 ? random.nextInt(10) - 3 : random.nextInt(4) - 1;
        }
        try {
            call.invoke(x, numbers);
        } catch (InvocationTargetException thrown) {
            Throwable cause = thrown.getCause();
            String what = call.getName() + Arrays.toString(numbers) + " threw " + cause;
            Check.same(what + ", as the document says", true, () -> isDue(call, cause));
        }
    }

    /** What the machine throws is of another class, or thrown further down than in the call itself. */
    private static boolean isDue(Method call, Throwable cause) {
        StackTraceElement top = cause.getStackTrace()[0];
        return Arrays.asList(call.getExceptionTypes()).contains(cause.getClass())
            && top.getClassName().equals("HoundlightProofs") && top.getMethodName().equals(call.getName());
    }
}
