import java.lang.reflect.InvocationTargetException;
import java.lang.reflect.Method;
import java.lang.reflect.Modifier;
import java.util.Arrays;
import java.util.Comparator;
import java.util.List;
import java.util.Random;

/** Any arguments in any state: no call throws, and int answers are never below the lowest FAULT. */
public final class WildArgumentsTest {
    private static final int[] EDGES = {-129, -22, -21, -6, -2, -1, 0, 1, 2, 3, 4, 5, 6, 7, 8, 9, 10, 11, 12, 13, 14, 15,
        16, 17, 19, 20, 21, 29, 30, 31, 32, 39, 40, 41, 50, 62, 63, 64, 99, 100, 101, 119, 120, 121, 127, 128, 199, 200,
        201, 255, 256, 299, 300, 301, 998, 999, 1000, 9998, 9999, 10000, 65536, 1 << 30, Integer.MAX_VALUE - 1,
        Integer.MAX_VALUE, Integer.MIN_VALUE, Integer.MIN_VALUE + 1};
    /** These fill the object fast when their arguments are small. */
    private static final List<String> MAKERS =
        List.of("thing", "lady", "buyer", "table", "sight", "secret", "row", "mark", "show");

    public static void main(String[] args) throws Exception {
        Method[] face = Arrays.stream(WhiteElephants.class.getDeclaredMethods())
            .filter(m -> Modifier.isPublic(m.getModifiers())).sorted(Comparator.comparing(Method::getName))
            .toArray(Method[]::new);
        int calls = 0;
        for (int run = 0; run < 400; run++) {
            Random random = new Random(run);
            WhiteElephants x = new WhiteElephants();
            for (int call = 0; call < 512; call++) {
                Method asked = face[random.nextInt(face.length)];
                Object[] arguments = arguments(asked, random, run % 3);
                ask(x, asked, arguments);
                calls++;
            }
        }
        System.out.println(calls + " calls, none threw");
    }

    private static void ask(WhiteElephants x, Method asked, Object[] arguments) throws Exception {
        try {
            Object got = asked.invoke(x, arguments);
            if (got instanceof Integer && (Integer) got < -140) {
                throw new IllegalStateException(asked.getName() + Arrays.toString(arguments) + " answered " + got);
            }
        } catch (InvocationTargetException e) {
            System.out.println(asked.getName() + Arrays.toString(arguments));
            throw e;
        }
    }

    private static Object[] arguments(Method asked, Random random, int manner) {
        boolean tame = MAKERS.contains(asked.getName()) ? random.nextInt(5) > 0 : random.nextInt(3) < manner;
        Class<?>[] types = asked.getParameterTypes();
        Object[] arguments = new Object[types.length];
        for (int i = 0; i < types.length; i++) {
            int edge = EDGES[random.nextInt(EDGES.length)];
            int v = tame ? random.nextInt(6) : random.nextInt(8) == 0 ? random.nextInt() : edge;
            if (types[i] == boolean.class) {
                arguments[i] = random.nextBoolean();
            } else if (types[i] == long.class) {
                arguments[i] = random.nextInt(3) == 0 ? random.nextLong() : (long) v;
            } else {
                arguments[i] = v;
            }
        }
        return arguments;
    }
}
