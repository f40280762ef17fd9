import java.lang.reflect.InvocationTargetException;
import java.lang.reflect.Method;
import java.lang.reflect.Modifier;
import java.util.Arrays;
import java.util.Comparator;
import java.util.Random;

/** LANGUAGE.md, rule 7: no call ever throws, for any numbers in any state, also beyond the 512 promised calls. */
public final class AnyCallsTest {
    private static final int OBJECTS = 200;
    private static final int CALLS = 2000;
    private static final int[] EDGES = {
        -4, -3, -2, -1, 0, 1, 2, 3, 7, 8, 10, 11, 12, 39, 40, 41, 99, 100, 101, 244, 429496730,
        Integer.MIN_VALUE, Integer.MIN_VALUE + 1, Integer.MAX_VALUE - 1, Integer.MAX_VALUE};

    private AnyCallsTest() {
    }

    public static void main(String[] args) throws IllegalAccessException {
        Check check = new Check();
        Method[] face = Arrays.stream(BlockMover.class.getDeclaredMethods())
            .filter(m -> Modifier.isPublic(m.getModifiers()))
            .sorted(Comparator.comparing(Method::getName)).toArray(Method[]::new);
        for (int seed = 0; seed < OBJECTS; seed++) {
            Random random = new Random(seed);
            BlockMover x = new BlockMover();
            for (int n = 0; n < CALLS; n++) {
                call(check, x, face[random.nextInt(face.length)], random, 1 + seed % 40);
            }
        }
        check.end();
    }

    private static void call(Check check, BlockMover x, Method m, Random random, int edgeOneIn)
            throws IllegalAccessException {
        Object[] numbers = new Object[m.getParameterCount()];
        for (int n = 0; n < numbers.length; n++) {
            int any = random.nextInt(edgeOneIn) == 0 ? EDGES[random.nextInt(EDGES.length)] : random.nextInt(4);
            if (m.getParameterTypes()[n] == long.class) {
                numbers[n] = random.nextLong();
            } else {
                numbers[n] = any;
            }
        }
        try {
            m.invoke(x, numbers);
        } catch (InvocationTargetException e) {
            check.due(m.getName() + Arrays.toString(numbers) + " threw " + e.getCause(), 1, 0);
        }
    }
}
