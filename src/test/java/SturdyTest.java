import java.lang.reflect.InvocationTargetException;
import java.lang.reflect.Method;
import java.util.ArrayList;
import java.util.Comparator;
import java.util.List;

/** No call ever throws, whatever its arguments and however many calls went ahead of it. */
public final class SturdyTest {
    private static final int[] NUMBERS = {0, 1, 2, 3, 5, 6, 7, 8, 10, 11, 24, 50, 99, 100, 240, 300, 500, 501, 900,
        1200, 2399, 2400, 14399, 14400, -1, -2, -300, -1000, 0x6461793c, 0x31202020, 0x28286461, 0x793d313b,
        Integer.MAX_VALUE, Integer.MIN_VALUE, 1 << 30};
    private static final Check CHECK = new Check();
    private static long state = 99;

    public static void main(String[] args) throws IllegalAccessException {
        List<Method> methods = new ArrayList<>(List.of(PoolCoast.class.getDeclaredMethods()));
        methods.removeIf(m -> !java.lang.reflect.Modifier.isPublic(m.getModifiers()));
        methods.sort(Comparator.comparing(Method::getName));
        for (int run = 0; run < 60; run++) {
            PoolCoast x = new PoolCoast();
            for (int p = 0; p < run % 12; p++) {
                x.pool(1 + below(200), -100, 100, below(100), below(101), below(101), below(100));
            }
            for (int i = 0; i < 3000; i++) {
                call(x, methods.get(below(methods.size())));
            }
        }
        CHECK.finish();
    }

    private static int below(int n) {
        state = state * 6364136223846793005L + 1442695040888963407L;
        return (int) ((state >>> 33) % n);
    }

    private static int number() {
        return below(3) == 0 ? NUMBERS[below(NUMBERS.length)] : below(3) == 0 ? below(300) : below(8);
    }

    private static void call(PoolCoast x, Method m) throws IllegalAccessException {
        Object[] arguments = new Object[m.getParameterCount()];
        for (int i = 0; i < arguments.length; i++) {
            if (m.getParameterTypes()[i] == boolean.class) {
                arguments[i] = below(2) == 0;
            } else {
                arguments[i] = number();
            }
        }
        int thrown = 0;
        try {
            m.invoke(x, arguments);
        } catch (InvocationTargetException e) {
            thrown = 1;
            System.out.println(e.getCause() + " by " + m.getName() + java.util.Arrays.toString(arguments));
        }
        CHECK.due("thrown by " + m.getName(), thrown, 0);
    }
}
