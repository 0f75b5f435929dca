import java.lang.reflect.InvocationTargetException;
import java.lang.reflect.Method;
import java.lang.reflect.Modifier;
import java.util.ArrayList;
import java.util.Comparator;
import java.util.List;
import java.util.Random;

/** No call throws, whatever its arguments and the state, and beyond the 512th call neither. */
public final class WildCallsTest {
    private static final int[] EDGES = {Integer.MIN_VALUE, Integer.MIN_VALUE + 1, -1000000, -401, -101, -100, -2, -1, 0, 1, 2, 3, 5, 6,
        7, 8, 9, 10, 11, 12, 15, 16, 17, 23, 24, 25, 57, 58, 60, 61, 98, 99, 100, 101, 109, 110, 199, 200, 205, 206, 299, 300, 301, 398,
        399, 400, 401, 500, 501, 999, 1000, 9999, 10000, 65535, 65536, 99999, 100000, 999999, 99999999, 100000000,
        Integer.MAX_VALUE - 100, Integer.MAX_VALUE - 1, Integer.MAX_VALUE};

    public static void main(String[] args) throws Exception {
        List<Method> face = new ArrayList<>();
        for (Method m : HungerBooks.class.getDeclaredMethods()) {
            if (Modifier.isPublic(m.getModifiers())) face.add(m);
        }
        face.sort(Comparator.comparing(Method::getName));
        Random random = new Random(5);
        for (int run = 0; run < 120; run++) {
            HungerBooks x = new HungerBooks();
            int small = 2 + random.nextInt(20);
            for (int k = 0; k < 1500; k++) {
                Method m = face.get(random.nextInt(face.size()));
                Object[] given = new Object[m.getParameterCount()];
                for (int j = 0; j < given.length; j++) {
                    int value = random.nextInt(5) == 0 ? EDGES[random.nextInt(EDGES.length)] : random.nextInt(small);
                    if (m.getName().equals("feed")) value = blanks(random);
                    given[j] = m.getParameterTypes()[j] == boolean.class ? (Object) random.nextBoolean() : (Object) value;
                }
                try {
                    m.invoke(x, given);
                } catch (InvocationTargetException thrown) {
                    Due.due(m.getName() + java.util.Arrays.toString(given) + " threw " + thrown.getCause(), 1, 0);
                }
            }
        }
        Due.end("WildCallsTest");
    }

    private static int blanks(Random random) {
        String signs = "  \n;+-*/(){}<>=0123456789abcdefghijklmnopqrstuvwxyz";
        int four = 0;
        for (int k = 0; k < 4; k++) four = four << 8 | signs.charAt(random.nextInt(signs.length()));
        return random.nextInt(9) == 0 ? random.nextInt() : four;
    }
}
