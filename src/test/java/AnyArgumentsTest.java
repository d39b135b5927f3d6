import java.lang.reflect.InvocationTargetException;
import java.lang.reflect.Method;
import java.util.Arrays;
import java.util.Comparator;

/** Any calls with any arguments in any state, all promises: none throws, and twins answer alike (LANGUAGE.md, rules 7 and 13). */
public final class AnyArgumentsTest {
    private static final long[] EDGES = {
        Long.MIN_VALUE, Long.MAX_VALUE, Integer.MIN_VALUE, Integer.MAX_VALUE, -100, -14, -6, -5, -4, -3, -2, -1, 0, 1, 2, 3, 4, 5, 6, 7, 8, 9, 10,
        11, 13, 14, 15, 19, 20, 31, 32, 35, 36, 37, 39, 40, 41, 66, 67, 91, 99, 100, 255, 256, 999, 1000, 9999, 10000, 16383, 16384, 65535, 99999,
        100000, 1L << 35, (1L << 36) - 1, 1L << 36};
    private static final String[] PIECES = {
        "falls ", "blows ", "rots ", "1", "-", "(", ")", "not ", " or ", " and ", "left", "many", "strong", "*", "+", "<", "=", ";", "9999", "12345", "#",
        "falls left-many;", "blows strong*12;", "rots 3+wet;", "falls 999;blows 99;rots 9;"};

    public static void main(String[] args) throws ReflectiveOperationException {
        Method[] methods = LeavesBeforeWind.class.getDeclaredMethods();
        methods = Arrays.stream(methods).filter(m -> (m.getModifiers() & 1) == 1).toArray(Method[]::new);
        Arrays.sort(methods, Comparator.comparing(Method::getName));
        for (int start = 0; start < 200; start++) run(new Lots(start), methods);
        Due.end();
    }

    private static void run(Lots lots, Method[] methods) throws ReflectiveOperationException {
        LeavesBeforeWind x = new LeavesBeforeWind(), twin = new LeavesBeforeWind();
        for (int call = 0; call < 300; call++) {
            if (lots.oneOf(40)) feedPieces(lots, x, twin);
            Method m = methods[lots.next(methods.length)];
            Object[] arguments = arguments(lots, m);
            long answer = answer(x, m, arguments);
            Due.is(m.getName() + Arrays.toString(arguments) + " of a twin", answer(twin, m, arguments), answer);
        }
    }

    private static void feedPieces(Lots lots, LeavesBeforeWind x, LeavesBeforeWind twin) {
        StringBuilder text = new StringBuilder();
        for (int k = lots.next(6); k >= 0; k--) text.append(PIECES[lots.next(PIECES.length)]);
        Due.feed(x, text.toString());
        Due.feed(twin, text.toString());
    }

    private static Object[] arguments(Lots lots, Method m) {
        Object[] arguments = new Object[m.getParameterCount()];
        for (int i = 0; i < arguments.length; i++) {
            // small ones often, so that more than refusals is reached
            long v = lots.oneOf(3) ? EDGES[lots.next(EDGES.length)] : lots.next(lots.oneOf(3) ? 40 : 5);
            arguments[i] = m.getParameterTypes()[i] == long.class ? (Object) v : (Object) (int) v;
        }
        return arguments;
    }

    private static long answer(LeavesBeforeWind x, Method m, Object[] arguments) throws ReflectiveOperationException {
        try {
            return ((Number) m.invoke(x, arguments)).longValue();
        } catch (InvocationTargetException e) {
            Due.is(m.getName() + Arrays.toString(arguments) + " threw " + e.getCause(), 1, 0);
            return 0;
        }
    }
}
