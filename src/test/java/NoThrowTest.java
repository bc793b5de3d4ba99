import java.lang.reflect.InvocationTargetException;
import java.lang.reflect.Method;
import java.lang.reflect.Modifier;
import java.util.ArrayList;
import java.util.Comparator;
import java.util.List;
import java.util.Random;

/** No call throws, whatever the numbers are and whatever came before. The draws are the same each time. */
public final class NoThrowTest {
    private static final Due due = new Due("NoThrowTest");
    private static final int[] EDGES = {Integer.MIN_VALUE, Integer.MIN_VALUE + 1, -65537, -7, -2, -1, 0, 1, 2, 3, 4, 5, 6, 7, 8,
        9, 10, 12, 13, 16, 31, 32, 35, 36, 46, 50, 51, 63, 64, 94, 99, 100, 126, 9999, 10000, Integer.MAX_VALUE};

    public static void main(String[] args) throws IllegalAccessException {
        List<Method> face = new ArrayList<>();
        for (Method m : SevenLeagues.class.getDeclaredMethods()) {
            if (Modifier.isPublic(m.getModifiers())) {
                face.add(m);
            }
        }
        face.sort(Comparator.comparing(Method::getName));
        Random draw = new Random(7);
        for (int run = 0; run < 300; run++) {
            SevenLeagues x = new SevenLeagues();
            for (int n = 0; n < 512; n++) {
                call(x, face.get(draw.nextInt(face.size())), draw);
            }
        }
        due.end();
    }

    private static void call(SevenLeagues x, Method m, Random draw) throws IllegalAccessException {
        Class<?>[] types = m.getParameterTypes();
        Object[] values = new Object[types.length];
        for (int i = 0; i < types.length; i++) {
            int v = draw.nextInt(3) == 0 ? EDGES[draw.nextInt(EDGES.length)] : draw.nextInt(5);
            if (types[i] == boolean.class) {
                values[i] = draw.nextBoolean();
            } else if (types[i] == long.class) {
                values[i] = draw.nextInt(4) == 0 ? draw.nextLong() : draw.nextInt(4) == 0 ? 1L << v : (long) v;
            } else {
                values[i] = v;
            }
        }
        String thrown = null;
        try {
            m.invoke(x, values);
        } catch (InvocationTargetException e) {
            thrown = String.valueOf(e.getCause());
        }
        due.holds(m.getName() + List.of(values) + " threw " + thrown, thrown == null);
    }
}
