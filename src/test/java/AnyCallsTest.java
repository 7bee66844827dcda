import java.lang.reflect.InvocationTargetException;
import java.lang.reflect.Method;
import java.util.ArrayList;
import java.util.HashMap;
import java.util.List;
import java.util.Map;
import java.util.Random;

/**
 * Runs of 512 calls with any arguments, from fixed seeds: each answer is held to that of PlainTowers, and none throws.
 * Half of the numbers lie where calls are mostly not refused, the others at boundaries, or anywhere.
 */
public final class AnyCallsTest {
    private static final int RUNS = 400, CALLS = 512, STARTS = 60;
    /** How a call's numbers are drawn; a call that stands here twice is asked more often. */
    private static final String[] ASKED = {
        "row row size", "lay row place stroke", "lay row place byte", "tear row", "copy row place row place place", "train",
        "plate row", "snail row", "barrel row row", "gear train pace fall", "wind train", "broken train byte", "told train few",
        "mark train few", "notch train place", "cut train place stroke", "put train place", "mean train", "tower tower",
        "hang tower train flag", "hang tower train flag", "hang tower train flag", "unhang tower flag", "hands tower minute",
        "forward tower steps", "forward tower steps", "back tower steps", "rate tower rate", "go tower flag",
        "windGoing tower going", "silence tower hour hour bit", "letOff tower flag", "letOff tower flag", "runOut tower flag",
        "pass minutes", "pass minutes", "pass minutes", "tells tower few", "log tower place few", "heard tower now now",
        "ahead tower tower", "meet tower tower", "right tower flag", "off tower flag", "putRight tower twelve", "act place",
        "due twelve place few place place", "misfits row twelve few place place", "fault row twelve", "faultTold flag",
        "explained row twelve", "windy row twelve few place place", "wheel teeth", "nearest ratio ratio bit", "chosen few",
        "daily train flag", "lasting tower", "lastingDays train flag", "asked", "upper", "lower", "count few", "finding",
        "findings few", "digest"};
    private static final int[] BOUNDARIES = {
        Integer.MIN_VALUE, Integer.MAX_VALUE, -3601, -3600, -129, -128, -1, 0, 1, 3, 4, 5, 6, 7, 8, 11, 12, 13, 15, 16, 23,
        24, 25, 47, 48, 49, 59, 60, 61, 127, 128, 200, 201, 255, 256, 719, 720, 1439, 1440, 1441, 1500, 1501, 3000, 3001,
        3600, 3601, 10000, 10001, 100000, 100001, 1000000, 1000001};
    private static final Checks c = new Checks("AnyCallsTest");
    private static final Map<String, Method> OF_CLASS = methods(HammerTowers.class);
    private static final Map<String, Method> OF_PLAIN = methods(PlainTowers.class);

    public static void main(String[] args) throws IllegalAccessException {
        c.is("calls that are known", OF_PLAIN.keySet().equals(OF_CLASS.keySet()) ? 1 : 0, 1);
        c.is("calls that are asked", names().containsAll(OF_CLASS.keySet()) ? 1 : 0, 1);
        for (int seed = 0; seed < RUNS; seed++) {
            oneRun(seed);
        }
        c.end();
    }

    private static Map<String, Method> methods(Class<?> of) {
        Map<String, Method> all = new HashMap<>();
        for (Method method : of.getMethods()) {
            if (method.getDeclaringClass() == of) {
                all.put(method.getName(), method);
            }
        }
        return all;
    }

    private static List<String> names() {
        List<String> all = new ArrayList<>();
        for (String call : ASKED) {
            all.add(call.split(" ")[0]);
        }
        return all;
    }

    private static void oneRun(int seed) throws IllegalAccessException {
        Random random = new Random(seed);
        HammerTowers x = new HammerTowers();
        PlainTowers plain = new PlainTowers();
        for (int i = 1; i <= CALLS; i++) {
            String[] words = i == CALLS ? new String[] {"digest"}
                : i <= STARTS ? start(i, random) : ASKED[random.nextInt(ASKED.length)].split(" ");
            Method call = OF_CLASS.get(words[0]);
            Object[] given = new Object[words.length - 1];
            StringBuilder text = new StringBuilder("seed " + seed + ", call " + i + ": " + words[0]);
            for (int k = 0; k < given.length; k++) {
                given[k] = words[k + 1].equals("flag") ? (Object) random.nextBoolean() : (Object) number(words[k + 1], random);
                text.append(" ").append(given[k]);
            }
            long due = answer(text.toString(), OF_PLAIN.get(words[0]), plain, given);
            c.is(text.toString(), answer(text.toString(), call, x, given), due);
        }
    }

    /** ROWS that can become NOTCHES, then TRAINS of each KIND and TOWERS, so that much of a run is not refused. */
    private static String[] start(int i, Random random) {
        if (i <= 4) {
            return new String[] {"row", "=" + (i - 1), "=" + new int[] {12, 4, 10, 20}[i - 1]};
        }
        if (i <= 46) {
            int at = i - 5;
            int r = at < 12 ? 0 : at < 16 ? 1 : at < 26 ? 2 : 3;
            int place = at - new int[] {0, 12, 16, 26}[r];
            boolean told = random.nextInt(8) > 0;
            return new String[] {"lay", "=" + r, "=" + place, r == 2 ? "byte" : told ? "=" + (place % 12 + 1) : "stroke"};
        }
        if (i <= 50) {
            return new String[] {"tower", "=" + (i - 47)};
        }
        return new String[][] {{"plate", "=0"}, {"snail", "=1"}, {"barrel", "=1", "=2"}, {"train"}, {"plate", "=1"},
            {"wheel", "teeth"}, {"wheel", "teeth"}, {"wheel", "teeth"}, {"wheel", "teeth"}, {"wheel", "teeth"}}[i - 51];
    }

    private static int number(String word, Random random) {
        if (word.startsWith("=")) {
            return Integer.parseInt(word.substring(1));
        }
        int dice = random.nextInt(40);
        if (dice == 0) {
            return random.nextInt();
        }
        if (dice <= 3) {
            return BOUNDARIES[random.nextInt(BOUNDARIES.length)];
        }
        switch (word) {
            case "row": return random.nextInt(5);
            case "size": return random.nextInt(6) == 0 ? 48 : random.nextInt(25);
            case "place": return random.nextInt(random.nextInt(4) == 0 ? 48 : 13);
            case "stroke": return 1 + random.nextInt(24);
            case "byte": return random.nextInt(256);
            case "train": return random.nextInt(random.nextInt(4) == 0 ? 16 : 6);
            case "pace": return 1 + random.nextInt(random.nextInt(2) == 0 ? 5 : 60);
            case "fall": return random.nextInt(random.nextInt(8) == 0 ? 20000 : 60);
            case "few": return random.nextInt(9);
            case "tower": return random.nextInt(5) == 0 ? random.nextInt(4) : 0;
            case "minute": return random.nextInt(3) == 0 ? random.nextInt(24) * 60 + 54 : random.nextInt(1440);
            case "steps": return random.nextInt(random.nextInt(4) == 0 ? 1501 : 70);
            case "rate": return random.nextInt(7201) - 3600;
            case "going": return random.nextInt(3) == 0 ? random.nextInt(100) : 500 + random.nextInt(20000);
            case "hour": return random.nextInt(24);
            case "bit": return random.nextInt(2) + random.nextInt(2);
            case "minutes": return random.nextInt(random.nextInt(6) == 0 ? 3001 : 130);
            case "now": return random.nextInt(random.nextInt(2) == 0 ? 3000 : 60000);
            case "twelve": return 1 + random.nextInt(12);
            case "teeth": return 6 + random.nextInt(195);
            case "ratio": return 1 + random.nextInt(random.nextInt(2) == 0 ? 20 : 10000);
            default: throw new IllegalArgumentException(word);
        }
    }

    private static long answer(String text, Method call, Object x, Object[] given) throws IllegalAccessException {
        try {
            return ((Number) call.invoke(x, given)).longValue();
        } catch (InvocationTargetException thrown) {
            c.is(text + " threw " + thrown.getCause(), 1, 0);
            return 0;
        }
    }
}
