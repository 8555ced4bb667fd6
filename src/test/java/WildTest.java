import java.lang.reflect.InvocationTargetException;
import java.lang.reflect.Method;
import java.lang.reflect.Modifier;
import java.util.ArrayList;
import java.util.Comparator;
import java.util.List;
import java.util.Random;

/** No call throws, whatever its arguments and the state are, and the same calls always give the same answers. */
public final class WildTest {
    private static final int[] INTS = {0, 1, 2, 3, 4, 5, 6, 7, 8, 9, 12, 13, 15, 16, 20, 31, 32, 33, 39, 40, 63, 64, 65, 255, 256,
        512, 1024, 2000, 2001, 4096, 8191, 12287, 12288, 65535, -1, -2, -9, -4096, -4097, -32768, Integer.MAX_VALUE,
        Integer.MAX_VALUE - 1, Integer.MIN_VALUE, Integer.MIN_VALUE + 1};
    private static final long[] LONGS = {0, 1, -1, 8, 255, 256, 1L << 31, 1L << 32, 1L << 52, 1L << 53, Long.MAX_VALUE,
        Long.MIN_VALUE};

    public static void main(String[] args) throws Exception {
        List<Method> methods = new ArrayList<>();
        for (Method m : RasterHouse.class.getDeclaredMethods()) if (Modifier.isPublic(m.getModifiers())) methods.add(m);
        methods.sort(Comparator.comparing(Method::getName));
        for (int seed = 1; seed <= 400; seed++) {
            if (run(methods, seed) != run(methods, seed)) {
                System.out.println("run " + seed + " gave other answers the second time");
                System.exit(1);
            }
        }
    }

    private static long run(List<Method> methods, int seed) throws Exception {
        Random random = new Random(seed);
        RasterHouse r = new RasterHouse();
        int most = seed % 3 == 0 ? INTS.length : seed % 3 == 1 ? 12 : 25;
        if (seed % 4 != 0) furnish(r, random);
        long all = 0;
        for (int i = 0; i < 400; i++) {
            Method m = methods.get(random.nextInt(methods.size()));
            Class<?>[] types = m.getParameterTypes();
            Object[] given = new Object[types.length];
            for (int k = 0; k < types.length; k++) {
                if (types[k] == long.class) given[k] = LONGS[random.nextInt(LONGS.length)];
                else given[k] = INTS[random.nextInt(random.nextInt(4) == 0 ? INTS.length : most)];
            }
            try {
                all = 31 * all + ((Number) m.invoke(r, given)).longValue();
            } catch (InvocationTargetException e) {
                System.out.println("run " + seed + ": " + m.getName() + java.util.Arrays.toString(given) + " threw " + e.getCause());
                System.exit(1);
            }
        }
        return all;
    }

    private static void furnish(RasterHouse r, Random random) {
        for (int i = 0; i < 5; i++) r.plane(random.nextInt(8), i < 3 ? 32 : 9, i < 3 ? 32 : 9);
        for (int s = 0; s < 10; s++) {
            r.shape(s);
            for (int k = 0; k < 4; k++) r.point(s, random.nextInt(9000) - 500, random.nextInt(9000) - 500);
            r.style(s, 5, 600);
        }
        for (int k = 0; k < 6; k++) r.join(8 + k % 2, random.nextInt(8));
    }
}
