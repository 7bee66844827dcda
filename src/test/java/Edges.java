import java.lang.reflect.InvocationTargetException;
import java.lang.reflect.Method;
import java.util.ArrayList;
import java.util.HashMap;
import java.util.List;
import java.util.Map;
import java.util.Set;
import java.util.TreeSet;
import java.util.regex.Matcher;
import java.util.regex.Pattern;

/**
 * Runs of calls on a new object, written as text, a call a line:
 * <pre>
 *   row(0, 48) = 48              the answer that is due; BAD, FULL, STATE, NONE, or the name of a FINDING
 *   row(0, 49) = BAD             a refused call: see below
 *   told(0, ?) = 1 3 0 30        the same for ? = 0, 1, 2, 3
 *   16 * train()                 many times; no answer is told: any but a refused one
 *   bytes(0, 5, 6, 7)            a ROW with these bytes
 *   fill(0, 24, 3)               a ROW of 24 bytes 3
 * </pre>
 * min and max are the least and the greatest int. Behind a refused call finding() and findings() are looked at,
 * and an object that was asked so is held, probe by probe, to another one that was not.
 */
final class Edges {
    private static final int MOST_CALLS = 512;
    private static final List<String> FINDINGS = List.of("none", "NOTHING", "BEYOND", "UNLIKE", "NOUGHT", "SIZE");
    private static final Set<String> REFUSALS =
        Set.of("BAD", "FULL", "STATE", "NOTHING", "BEYOND", "UNLIKE", "NOUGHT", "SIZE");
    private static final Pattern LINE = Pattern.compile("(?:(\\d+) \\* )?(\\w+)\\(([^()]*)\\)(?: = (.+))?");
    private static final Map<String, Long> NUMBERS = numbers();
    private static final Map<String, Method> CALLS = calls();

    final Checks c;
    final TreeSet<Integer> promises = new TreeSet<>();

    Edges(Checks c) {
        this.c = c;
    }

    /** What is asked, and the answer that is due as a word (null: any but a refused one) and as a number. */
    private record Step(String text, Method call, Object[] given, String answer, long due) {
        boolean isOpen() {
            return answer == null;
        }

        /** By its word: rate() and ahead() may well answer -1. */
        boolean isRefused() {
            return answer != null && REFUSALS.contains(answer);
        }

        boolean looksRefused(long got) {
            return got < 0 && got >= HammerTowers.STATE && !call.getName().equals("rate");
        }

        /** Which FINDING, 0 for none. */
        int finding() {
            return Math.max(0, FINDINGS.indexOf(answer));
        }
    }

    private static Map<String, Long> numbers() {
        Map<String, Long> all = new HashMap<>();
        all.put("BAD", (long) HammerTowers.BAD);
        all.put("FULL", (long) HammerTowers.FULL);
        all.put("STATE", (long) HammerTowers.STATE);
        all.put("NONE", (long) HammerTowers.NONE);
        all.put("min", (long) Integer.MIN_VALUE);
        all.put("max", (long) Integer.MAX_VALUE);
        for (int f = 1; f < FINDINGS.size(); f++) {
            all.put(FINDINGS.get(f), (long) HammerTowers.FINDING);
        }
        return all;
    }

    private static Map<String, Method> calls() {
        Map<String, Method> all = new HashMap<>();
        for (Method method : HammerTowers.class.getMethods()) {
            if (method.getDeclaringClass() == HammerTowers.class) {
                all.put(method.getName(), method);
            }
        }
        return all;
    }

    /** A sentence of the document that a promise is read with, and calls at its boundary and on both sides of it. */
    void promise(int number, String sentence, String lines) {
        promises.add(number);
        String name = "promise " + number + " (" + sentence + ")";
        List<Step> steps = read(lines);
        Run run = new Run(name);
        for (int i = 0; i < steps.size(); i++) {
            Step step = steps.get(i);
            long got = run.ask(step);
            String where = name + ", call " + (i + 1) + ": " + step.text();
            if (step.isOpen()) {
                c.is(where + " is refused", step.looksRefused(got) ? got : 0, 0);
            } else {
                c.is(where, got, step.due());
            }
            if (step.isRefused()) {
                changesNothing(where, steps.subList(0, i), step);
            }
        }
    }

    // ---- text to calls

    private static List<Step> read(String lines) {
        List<Step> steps = new ArrayList<>();
        for (String part : lines.split("\n")) {
            String line = part.trim();
            if (line.isEmpty()) {
                continue;
            }
            Matcher matcher = LINE.matcher(line);
            if (!matcher.matches()) {
                throw new IllegalArgumentException("no call: " + line);
            }
            int times = matcher.group(1) == null ? 1 : Integer.parseInt(matcher.group(1));
            for (int i = 0; i < times; i++) {
                add(steps, matcher.group(2), matcher.group(3).split(", *"), matcher.group(4));
            }
        }
        return steps;
    }

    private static void add(List<Step> steps, String name, String[] given, String answers) {
        if (name.equals("bytes") || name.equals("fill")) {
            addRow(steps, name.equals("fill"), given);
            return;
        }
        if (answers == null) {
            steps.add(step(name, given, 0, null));
            return;
        }
        String[] each = answers.split(" +");
        for (int i = 0; i < each.length; i++) {
            steps.add(step(name, given, i, each[i]));
        }
    }

    private static void addRow(List<Step> steps, boolean fill, String[] given) {
        int size = fill ? Integer.parseInt(given[1]) : given.length - 1;
        steps.add(step("row", new String[] {given[0], "" + size}, 0, "" + size));
        for (int i = 0; i < size; i++) {
            steps.add(step("lay", new String[] {given[0], "" + i, fill ? given[2] : given[i + 1]}, 0, "1000"));
        }
    }

    private static Step step(String name, String[] words, int index, String answer) {
        Method call = CALLS.get(name);
        if (call == null) {
            throw new IllegalArgumentException("no such call: " + name);
        }
        Class<?>[] types = call.getParameterTypes();
        Object[] given = new Object[types.length];
        StringBuilder text = new StringBuilder(name).append('(');
        for (int i = 0; i < types.length; i++) {
            String word = words[i].equals("?") ? "" + index : words[i];
            given[i] = types[i] == boolean.class ? (Object) Boolean.valueOf(word) : (Object) (int) number(word);
            text.append(i > 0 ? ", " : "").append(word);
        }
        text.append(')');
        return new Step(text.toString(), call, given, answer, answer == null ? 0 : number(answer));
    }

    private static long number(String word) {
        Long named = NUMBERS.get(word);
        return named != null ? named : Long.parseLong(word);
    }

    // ---- what is refused changes nothing but finding(), findings()

    private void changesNothing(String where, List<Step> before, Step refused) {
        Run asked = new Run(where);
        Run other = new Run(where);
        for (Step step : before) {
            asked.ask(step);
            other.ask(step);
        }
        asked.ask(refused);
        int which = refused.finding();
        long last = other.ask("finding");
        c.is(where + ": finding() behind it", asked.ask("finding"), which == 0 ? last : which);
        for (int f = 1; f < FINDINGS.size(); f++) {
            long more = f == which ? 1 : 0;
            c.is(where + ": findings(" + f + ") behind it", asked.ask("findings", f), other.ask("findings", f) + more);
        }
        alike(where, asked, other);
    }

    /** First what is told without changing anything, then what only a change can show (FALL, BROKEN, RATE, SILENCE). */
    private void alike(String where, Run asked, Run other) {
        for (String call : new String[] {"digest", "asked", "upper", "lower"}) {
            probe(where, asked, other, call);
        }
        probe(where, asked, other, "faultTold", false);
        probe(where, asked, other, "faultTold", true);
        for (int i = 0; i < 12; i++) {
            probe(where, asked, other, "act", i);
        }
        for (int i = 0; i < 4; i++) {
            probe(where, asked, other, "chosen", i);
        }
        for (int what = 0; what < 6; what++) {
            probe(where, asked, other, "count", what);
        }
        for (int t = 0; t < 4; t++) {
            if (probe(where, asked, other, "tells", t, 0) != HammerTowers.FINDING) {
                alikeTowers(where, asked, other, t);
            }
        }
        for (int i = 0; i < other.ask("count", 1); i++) {
            probe(where, asked, other, "wind", i);
            probe(where, asked, other, "broken", i, 0);
        }
        probe(where, asked, other, "nearest", 7, 5, 1);
        probe(where, asked, other, "upper");
        probe(where, asked, other, "nearest", 7, 5, 2);
        probe(where, asked, other, "upper");
        probe(where, asked, other, "pass", 61);
        probe(where, asked, other, "digest");
    }

    private void alikeTowers(String where, Run asked, Run other, int t) {
        for (int i = 0; i < 2; i++) {
            for (int what = 0; what < 4; what++) {
                probe(where, asked, other, "log", t, i, what);
            }
        }
        probe(where, asked, other, "heard", t, 0, 1000000);
        probe(where, asked, other, "rate", t, 0);
        long hands = probe(where, asked, other, "hands", t, 0);
        for (int hour = 0; hour < 24; hour++) {
            probe(where, asked, other, "hands", t, hour * 60);
            probe(where, asked, other, "tells", t, 8);
        }
        probe(where, asked, other, "hands", t, (int) hands);
    }

    private long probe(String where, Run asked, Run other, String name, Object... given) {
        long due = other.ask(name, given);
        c.is(where + ": " + name + java.util.Arrays.toString(given) + " behind it", asked.ask(name, given), due);
        return due;
    }

    /** An object and how many calls it had: what it answers behind 512 is free, so that no test may look at it. */
    private final class Run {
        private final HammerTowers x = new HammerTowers();
        private final String name;
        private int calls;

        Run(String name) {
            this.name = name;
        }

        long ask(Step step) {
            return answer(step.text(), step.call(), step.given());
        }

        long ask(String call, Object... given) {
            return answer(call, CALLS.get(call), given);
        }

        private long answer(String text, Method call, Object[] given) {
            calls++;
            if (calls == MOST_CALLS + 1) {
                c.is(name + ": calls on one object", calls, MOST_CALLS);
            }
            try {
                return ((Number) call.invoke(x, given)).longValue();
            } catch (InvocationTargetException thrown) {
                c.is(name + ": " + text + " threw " + thrown.getCause(), 1, 0);
                return 0;
            } catch (IllegalAccessException hidden) {
                throw new IllegalStateException(hidden);
            }
        }
    }
}
