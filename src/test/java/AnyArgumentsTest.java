import java.lang.reflect.InvocationTargetException;
import java.lang.reflect.Method;
import java.util.Arrays;
import java.util.Random;

/** Whatever the arguments and the state: no call throws, and one that is refused changes and counts as promised. */
public final class AnyArgumentsTest {
    private static final int[] NUMBERS = {Integer.MIN_VALUE, Integer.MIN_VALUE + 1, -1000000000, -65536, -1000, -256,
        -41, -40, -9, -2, -1, 0, 1, 2, 3, 5, 6, 7, 9, 10, 11, 12, 13, 20, 21, 24, 25, 40, 41, 96, 97, 99, 100, 200,
        201, 255, 256, 999, 1000, 65536, 1000000000, Integer.MAX_VALUE - 1, Integer.MAX_VALUE};
    private static final String[] TEXTS = {"p33;", "n02;il000;il010;e0+24;e1+24;", "n12;il119;is008;e0-40;e1+24;k0;",
        "ie000;iv059;e0+03;e1-40;p19;k0;k1;", "ib000;is010;e0+01;e1+02;s;"};

    public static void main(String[] args) throws IllegalAccessException {
        Random lot = new Random(18);
        for (Method method : GoneIntoItsTunnel.class.getDeclaredMethods()) {
            if (java.lang.reflect.Modifier.isPublic(method.getModifiers())) {
                everyArgument(method, lot);
            }
        }
        Due.close();
    }

    private static void everyArgument(Method method, Random lot) throws IllegalAccessException {
        int parameters = method.getParameterCount();
        int rounds = parameters < 2 ? NUMBERS.length : NUMBERS.length * NUMBERS.length;
        for (int round = 0; round < rounds; round++) {
            Object[] arguments = new Object[parameters];
            for (int i = 0; i < parameters; i++) {
                arguments[i] = NUMBERS[i == 0 ? round % NUMBERS.length : i == 1 ? round / NUMBERS.length
                        : lot.nextInt(NUMBERS.length)];
            }
            look(method, arguments, TEXTS[round % TEXTS.length], lot.nextInt(4) == 0);
        }
    }

    private static void look(Method method, Object[] arguments, String text, boolean full)
            throws IllegalAccessException {
        GoneIntoItsTunnel x = Due.told(text);
        if (full) {
            Due.letters(x, "s;".repeat(48));
            Due.row(x, 42, 42, 42, 42, 42, 42, 42, 42, 42, 42, 42, 42);
        }
        String before = all(x);
        int refusals = refusals(x);
        String call = method.getName() + Arrays.toString(arguments);
        try {
            int answer = (Integer) method.invoke(x, arguments);
            if (refusals(x) != refusals) {
                Due.is(call + " refused once", refusals(x), refusals + 1);
                Due.same("all behind the refused " + call, all(x), before);
                int why = answer > 1000000000 ? 1000000000 - answer : answer;
                Due.is(call + " counted by its number", x.count(10 - why), 1);
            }
        } catch (InvocationTargetException e) {
            Due.same(call, "threw " + e.getCause(), "answered");
        }
    }

    private static String all(GoneIntoItsTunnel x) {
        return Due.state(x) + " row " + x.count(7) + " letters " + x.count(8);
    }

    private static int refusals(GoneIntoItsTunnel x) {
        int sum = 0;
        for (int what = 11; what <= 16; what++) {
            sum += x.count(what);
        }
        return sum;
    }
}
