import java.util.function.IntSupplier;

/** Counts the answers that are not as due; a test class ends by end(), with exit code 1 if there was one. */
final class Checks {
    static final int NOTHING = 1, BEYOND = 2, UNLIKE = 3, NOUGHT = 4, SIZE = 5;

    private final String name;
    private int checked;
    private int wrong;

    Checks(String name) {
        this.name = name;
    }

    void is(String call, long got, long want) {
        checked++;
        if (got != want) {
            wrong++;
            System.out.println(name + ": " + call + " answered " + got + ", due is " + want);
        }
    }

    void all(String call, long[] got, long... want) {
        is(call + " (how many)", got.length, want.length);
        for (int i = 0; i < Math.min(got.length, want.length); i++) {
            is(call + " [" + i + "]", got[i], want[i]);
        }
    }

    /** BAD, FULL or STATE: nothing changes, and nothing is told by finding(), findings(). */
    void refused(HammerTowers x, String call, int answer, IntSupplier asks) {
        long[] before = told(x);
        is(call, asks.getAsInt(), answer);
        all(call + ", what is told behind it", told(x), before);
    }

    /** A FINDING: nothing changes but finding(), findings(). */
    void finds(HammerTowers x, String call, int which, IntSupplier asks) {
        long[] due = told(x);
        due[0] = which;
        due[which]++;
        is(call, asks.getAsInt(), HammerTowers.FINDING);
        all(call + ", what is told behind it", told(x), due);
    }

    private static long[] told(HammerTowers x) {
        return new long[] {
            x.finding(), x.findings(1), x.findings(2), x.findings(3), x.findings(4), x.findings(5),
            x.digest(), x.asked(), x.upper(), x.lower(), x.count(3), x.act(0), x.chosen(0),
            x.faultTold(false), x.faultTold(true)};
    }

    void end() {
        System.out.println(name + ": " + checked + " checks, " + wrong + " wrong");
        if (wrong != 0) {
            System.exit(1);
        }
    }
}
