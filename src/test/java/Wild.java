import java.lang.reflect.InvocationTargetException;
import java.lang.reflect.Method;
import java.lang.reflect.Modifier;
import java.util.Arrays;
import java.util.Comparator;
import java.util.Random;

/** Any calls in any state with any numbers: a call throws nothing but what its head lists. */
public final class Wild {
    private static final int[] NUMBERS = {Integer.MIN_VALUE, -2, -1, -1, -1, 0, 0, 0, 0, 1, 1, 1, 2, 2, 3, 4, 5, 6, 7, 8,
        9, 10, 11, 12, 80, 199, 200, 1 << 30, Integer.MAX_VALUE};
    private static final char[] SIGNS = {'d', 's', 'm', 'n', 'n', 'n', 'x', 0, 255};

    static Object any(Class<?> type, Random random) {
        if (type == boolean.class) return random.nextInt(3) == 0;
        if (type == char.class) return SIGNS[random.nextInt(SIGNS.length)];
        return random.nextInt(10) < 7 ? random.nextInt(3) - random.nextInt(8) / 7 : NUMBERS[random.nextInt(NUMBERS.length)];
    }

    public static void main(String[] args) throws Exception {
        Method[] methods = ModedMill.class.getDeclaredMethods();
        methods = Arrays.stream(methods).filter(m -> Modifier.isPublic(m.getModifiers())).toArray(Method[]::new);
        Arrays.sort(methods, Comparator.comparing(Method::getName));
        int wrong = 0;
        for (long seed = 0; seed < 4000; seed++) {
            Random random = new Random(seed);
            ModedMill mill = new ModedMill();
            for (int call = 0; call < 512; call++) {
                Method m = methods[random.nextInt(methods.length)];
                // Building goes first, or most calls would only be refused.
                if (call < 120 && !m.getName().startsWith("add")) continue;
                if (m.getName().equals("open") && random.nextInt(5) > 0) continue;
                Object[] given = new Object[m.getParameterCount()];
                for (int i = 0; i < given.length; i++) given[i] = any(m.getParameterTypes()[i], random);
                try {
                    m.invoke(mill, given);
                } catch (InvocationTargetException e) {
                    if (!Arrays.asList(m.getExceptionTypes()).contains(e.getCause().getClass())) {
                        wrong++;
                        System.out.println(m.getName() + Arrays.toString(given) + " throws " + e.getCause());
                    }
                }
            }
        }
        System.out.println(wrong == 0 ? "only what is listed was thrown" : wrong + " calls threw something else");
        if (wrong != 0) System.exit(1);
    }
}
