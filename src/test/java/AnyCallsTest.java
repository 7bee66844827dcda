import java.lang.reflect.InvocationTargetException;
import java.lang.reflect.Method;
import java.util.Arrays;
import java.util.Comparator;
import java.util.Random;

/**
 * Runs of 512 calls with any arguments: none throws, what is refused changes nothing but finding() and
 * findings(), the same calls give the same answers, and what calls tell agrees with what others tell.
 */
public final class AnyCallsTest {
    private static final int[] EDGES = {
        Integer.MIN_VALUE, Integer.MAX_VALUE, -3601, -3600, -1, 0, 1, 2, 3, 4, 5, 6, 7, 8, 11, 12, 13, 15, 16, 23, 24,
        25, 47, 48, 49, 60, 61, 200, 201, 255, 256, 1439, 1440, 1500, 1501, 3000, 3001, 3600, 3601, 10000, 100000};
    private static final Checks c = new Checks("AnyCallsTest");
    private static final Method[] CALLS = calls();

    public static void main(String[] args) throws ReflectiveOperationException {
        for (int seed = 0; seed < 300; seed++) {
            oneRun(seed, seed % 3);
        }
        c.end();
    }

    private static Method[] calls() {
        Method[] calls = Arrays.stream(HammerTowers.class.getMethods())
            .filter(m -> m.getDeclaringClass() == HammerTowers.class)
            .toArray(Method[]::new);
        Arrays.sort(calls, Comparator.comparing(Method::getName));
        return calls;
    }

    private static void oneRun(int seed, int wild) throws ReflectiveOperationException {
        Random random = new Random(seed);
        HammerTowers x = new HammerTowers();
        HammerTowers again = new HammerTowers();
        if (wild != 2) {
            furnish(x);
            furnish(again);
        }
        for (int i = 0; i < 400; i++) {
            Method call = CALLS[random.nextInt(CALLS.length)];
            Object[] given = arguments(call, random, wild);
            String name = "seed " + seed + ", call " + i + ": " + call.getName() + Arrays.toString(given);
            long before = again.digest();
            long answer = answer(name, call, x, given);
            c.is(name + " on another object", answer(name, call, again, given), answer);
            if (answer < 0 && answer >= HammerTowers.STATE) {
                c.is(name + " is refused, digest()", again.digest(), before);
            }
        }
        c.is("seed " + seed + ": digest() of both", again.digest(), x.digest());
        agrees(seed, x);
    }

    /** TRAINS of each KIND in places, so that much of a run is not refused. */
    private static void furnish(HammerTowers x) {
        Made.plate(x, Made.HOURS);
        Made.barrel(x, Made.QUARTERS, 1, 2, 4, 8, 0, 255);
        Made.snail(x, Made.HOURS);
        x.train();
        for (int t = 0; t < 3; t++) {
            x.tower(t);
        }
        x.hang(0, 0, false);
        x.hang(0, 1, true);
        x.hang(1, 2, false);
        x.hang(2, 3, true);
        Made.row(x, 0, 3, 4, 5, -1, 0, 8, 9);
    }

    private static Object[] arguments(Method call, Random random, int wild) {
        Class<?>[] types = call.getParameterTypes();
        Object[] given = new Object[types.length];
        for (int i = 0; i < given.length; i++) {
            if (types[i] == boolean.class) {
                given[i] = random.nextBoolean();
            } else {
                int dice = random.nextInt(20);
                given[i] = dice < (wild == 0 ? 12 : 6) ? random.nextInt(4)
                    : dice < 19 ? EDGES[random.nextInt(EDGES.length)] : random.nextInt();
            }
        }
        return given;
    }

    private static long answer(String name, Method call, HammerTowers x, Object[] given)
            throws IllegalAccessException {
        try {
            return ((Number) call.invoke(x, given)).longValue();
        } catch (InvocationTargetException thrown) {
            c.is(name + " threw " + thrown.getCause(), 1, 0);
            return 0;
        }
    }

    private static void agrees(int seed, HammerTowers x) {
        int struck = 0;
        for (int i = 0; i < x.count(1); i++) {
            struck += x.told(i, 7);
            int tower = x.told(i, 6);
            boolean hangs = tower >= 0 && (x.tells(tower, 4) == i || x.tells(tower, 5) == i);
            c.is("seed " + seed + ": TRAIN " + i + " hangs where it tells", hangs ? 1 : 0, tower >= 0 ? 1 : 0);
            c.is("seed " + seed + ": WEIGHT of TRAIN " + i, x.told(i, 4) >= 0 ? 1 : 0, 1);
        }
        c.is("seed " + seed + ": strokes ever", x.count(5), struck);
        for (int t = 0; t < 4; t++) {
            if (x.tells(t, 0) < 0) {
                continue;
            }
            int strokes = 0;
            for (int i = 0; i < Made.entries(x, t); i++) {
                strokes += x.log(t, i, 2);
            }
            c.is("seed " + seed + ": heard() of TOWER " + t, x.heard(t, 0, 1000000), strokes);
        }
    }
}
