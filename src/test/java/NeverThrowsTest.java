import java.lang.reflect.InvocationTargetException;
import java.lang.reflect.Method;
import java.util.Arrays;
import java.util.Comparator;
import java.util.Random;

/** LANGUAGE.md, rule 7: no call throws, for any arguments in any state, beyond the 512th call too. */
public final class NeverThrowsTest {
    private static final Check CHECK = new Check("NeverThrowsTest");
    private static final int OBJECTS = 300;
    private static final int CALLS = 600;
    private static final int[] EDGES = {Integer.MIN_VALUE, Integer.MIN_VALUE + 1, -600, -256, -17, -2, -1, 0, 1, 2, 3, 4, 5, 6, 7, 8,
        9, 10, 15, 16, 17, 50, 51, 59, 60, 61, 99, 255, 256, 257, 599, 600, 601, 2_000_000_000, 2_000_000_001,
        Integer.MAX_VALUE - 1, Integer.MAX_VALUE};
    private static final String[] TEXTS = {"wide 16 rows 16;row fhm;", "wide 1 rows 1;row f;", "wide 3 rows 2;row k;row fp;",
        "hand f 50 h 50 m 50;", "hand f 100 h 100 m 100;", "way over fhm;", "way over f step 9 group 5 guard 5 turn top;",
        "way over mh guard 3 top;", "stop if purls more 3 and runs less 9;stop if lost more 1;",
        "stop if 999 times 999 times 999 times 999 times 999 times 999 times 999 same 0;", "wash;moth 1 from 255;",
        "lose rows 0 to 15;", "lose columns 3 to 5;moth 99 from 0;", "a", "hello world", "z z z", ";", "", "wide", "stop", "way over"};

    private final Random random;
    private final StitchSays x = new StitchSays();

    private NeverThrowsTest(int seed) {
        random = new Random(seed);
    }

    public static void main(String[] args) throws IllegalAccessException {
        Method[] methods = Arrays.stream(StitchSays.class.getDeclaredMethods())
            .filter(m -> java.lang.reflect.Modifier.isPublic(m.getModifiers()))
            .sorted(Comparator.comparing(Method::getName)).toArray(Method[]::new);
        CHECK.due("methods of the face", methods.length, 40);
        for (int n = 0; n < OBJECTS; n++) {
            new NeverThrowsTest(n).go(methods);
        }
        CHECK.finish();
    }

    private int anyInt() {
        int kind = random.nextInt(20);
        return kind == 0 ? random.nextInt() : kind < 5 ? EDGES[random.nextInt(EDGES.length)] : random.nextInt(kind < 9 ? 20 : 4);
    }

    private void go(Method[] methods) throws IllegalAccessException {
        for (int call = 0; call < CALLS; call++) {
            if (random.nextInt(3) == 0) {
                String text = TEXTS[random.nextInt(TEXTS.length)];
                Check.tape(x, random.nextInt(8) == 0 ? text.repeat(Math.min(20, 600 / Math.max(1, text.length()))) : text);
            }
            Method method = methods[random.nextInt(methods.length)];
            Object[] arguments = new Object[method.getParameterCount()];
            for (int i = 0; i < arguments.length; i++) {
                boolean isLong = method.getParameterTypes()[i] == long.class;
                arguments[i] = isLong ? (Object) random.nextLong() : (Object) anyInt();
            }
            try {
                CHECK.due(method.getName() + Arrays.toString(arguments), (Integer) method.invoke(x, arguments) >= -8 ? 1 : 0, 1);
            } catch (InvocationTargetException e) {
                e.getCause().printStackTrace(System.out);
                CHECK.due(method.getName() + Arrays.toString(arguments) + " threw", 1, 0);
                return;
            }
        }
    }
}
