import java.math.BigInteger;
import java.util.Random;

/** Promises 47 to 49: WHEELS, and GEARS that are NEAREST. */
public final class WheelsTest {
    private static final int BAD = HammerTowers.BAD, FULL = HammerTowers.FULL, NONE = HammerTowers.NONE;
    private static final Checks c = new Checks("WheelsTest");

    public static void main(String[] args) {
        promise47Wheel();
        promise48Nearest();
        promise48NearestOfAlike();
        promise48NearestByTrial();
        promise48NearestRefused();
        promise49Chosen();
        c.end();
    }

    private static void promise47Wheel() {
        HammerTowers x = new HammerTowers();
        c.is("wheel(6)", x.wheel(6), 0);
        c.is("wheel(200)", x.wheel(200), 1);
        c.refused(x, "wheel(5)", BAD, () -> x.wheel(5));
        c.refused(x, "wheel(201)", BAD, () -> x.wheel(201));
        c.refused(x, "wheel(-6)", BAD, () -> x.wheel(-6));
        for (int i = 2; i < 12; i++) {
            c.is("wheel(60)", x.wheel(60), i);
        }
        c.refused(x, "wheel(60), the 13th", FULL, () -> x.wheel(60));
        c.refused(x, "wheel(5): BAD before FULL", BAD, () -> x.wheel(5));
        c.is("count(3)", x.count(3), 12);
    }

    private static void told(String what, HammerTowers x, long upper, long lower, int... wheels) {
        c.is(what + ": upper()", x.upper(), upper);
        c.is(what + ": lower()", x.lower(), lower);
        for (int i = 0; i < 5; i++) {
            c.is(what + ": chosen(" + i + ")", x.chosen(i), i < wheels.length ? wheels[i] : NONE);
        }
    }

    private static void promise48Nearest() {
        HammerTowers x = new HammerTowers();
        x.wheel(12);
        x.wheel(6);
        c.is("nearest(1, 1, 1)", x.nearest(1, 1, 1), 1);
        told("1 by 1 lies nearer to 1 by 2", x, 1, 2, 1, 0);
        c.is("nearest(10000, 1, 1)", x.nearest(10000, 1, 1), 1);
        told("10000 by 1", x, 2, 1, 0, 1);
        c.is("nearest(1, 10000, 1)", x.nearest(1, 10000, 1), 1);
        told("1 by 10000", x, 1, 2, 1, 0);
        x.wheel(9);
        x.wheel(30);
        c.is("nearest(5, 3, 2)", x.nearest(5, 3, 2), 1);
        told("5 by 3 of two pairs: 6 by 12 and 30 by 9", x, 5, 3, 1, 0, 3, 2);
        c.is("nearest(10, 3, 1)", x.nearest(10, 3, 1), 1);
        told("one pair again", x, 10, 3, 3, 2);
    }

    private static void promise48NearestOfAlike() {
        HammerTowers x = new HammerTowers();
        for (int i = 0; i < 4; i++) {
            x.wheel(20);
        }
        x.nearest(1, 1, 1);
        told("wheels alike, a pair", x, 1, 1, 0, 1);
        x.nearest(7, 2, 2);
        told("wheels alike, two pairs", x, 1, 1, 0, 1, 2, 3);
        HammerTowers y = new HammerTowers();
        y.wheel(20);
        y.wheel(40);
        y.wheel(10);
        y.nearest(5, 4, 1);
        told("5 by 4 lies midway between 1 by 2 and 2 by 1", y, 1, 2, 0, 1);
    }

    /** Against all GEARS in their order, by fractions of any size. */
    private static void promise48NearestByTrial() {
        Random random = new Random(48);
        for (int run = 0; run < 60; run++) {
            HammerTowers x = new HammerTowers();
            int[] teeth = new int[4 + random.nextInt(run % 10 == 0 ? 9 : 4)];
            for (int i = 0; i < teeth.length; i++) {
                teeth[i] = run % 3 == 0 ? 6 + 6 * random.nextInt(6) : 6 + random.nextInt(195);
                x.wheel(teeth[i]);
            }
            for (int n = 1; n <= 2; n++) {
                int u = 1 + random.nextInt(run % 2 == 0 ? 12 : 10000);
                int v = 1 + random.nextInt(run % 2 == 0 ? 12 : 10000);
                int[] best = best(teeth, u, v, n);
                c.is("nearest() of run " + run, x.nearest(u, v, n), 1);
                BigInteger up = BigInteger.valueOf((long) teeth[best[0]] * (n == 1 ? 1 : teeth[best[2]]));
                BigInteger low = BigInteger.valueOf((long) teeth[best[1]] * (n == 1 ? 1 : teeth[best[3]]));
                BigInteger part = up.gcd(low);
                told("run " + run, x, up.divide(part).longValue(), low.divide(part).longValue(), best);
            }
        }
    }

    private static int[] best(int[] teeth, int u, int v, int n) {
        int[] best = null;
        BigInteger bestGap = null;
        BigInteger bestLow = null;
        int all = teeth.length;
        for (int i = 0; i < Math.pow(all, 2 * n); i++) {
            int[] wheels = n == 1
                ? new int[] {i / all, i % all}
                : new int[] {i / all / all / all, i / all / all % all, i / all % all, i % all};
            if (java.util.Arrays.stream(wheels).distinct().count() < wheels.length) {
                continue;
            }
            BigInteger up = BigInteger.valueOf((long) teeth[wheels[0]] * (n == 1 ? 1 : teeth[wheels[2]]));
            BigInteger low = BigInteger.valueOf((long) teeth[wheels[1]] * (n == 1 ? 1 : teeth[wheels[3]]));
            BigInteger gap = up.multiply(BigInteger.valueOf(v)).subtract(low.multiply(BigInteger.valueOf(u))).abs();
            if (best == null || gap.multiply(bestLow).compareTo(bestGap.multiply(low)) < 0) {
                best = wheels;
                bestGap = gap;
                bestLow = low;
            }
        }
        return best;
    }

    private static void promise48NearestRefused() {
        HammerTowers x = new HammerTowers();
        c.finds(x, "nearest(1, 1, 1) without WHEELS", Checks.NOUGHT, () -> x.nearest(1, 1, 1));
        x.wheel(10);
        c.finds(x, "nearest(1, 1, 1) of one WHEEL", Checks.NOUGHT, () -> x.nearest(1, 1, 1));
        x.wheel(20);
        x.wheel(30);
        c.is("nearest(1, 3, 1)", x.nearest(1, 3, 1), 1);
        c.finds(x, "nearest(1, 1, 2) of three WHEELS", Checks.NOUGHT, () -> x.nearest(1, 1, 2));
        c.refused(x, "nearest(0, 1, 1)", BAD, () -> x.nearest(0, 1, 1));
        c.refused(x, "nearest(1, 0, 1)", BAD, () -> x.nearest(1, 0, 1));
        c.refused(x, "nearest(10001, 1, 1)", BAD, () -> x.nearest(10001, 1, 1));
        c.refused(x, "nearest(1, 10001, 1)", BAD, () -> x.nearest(1, 10001, 1));
        c.refused(x, "nearest(1, 1, 0)", BAD, () -> x.nearest(1, 1, 0));
        c.refused(x, "nearest(1, 1, 3): BAD before NOUGHT", BAD, () -> x.nearest(1, 1, 3));
    }

    private static void promise49Chosen() {
        HammerTowers x = new HammerTowers();
        c.is("chosen(0) before", x.chosen(0), NONE);
        x.wheel(10);
        x.wheel(20);
        x.wheel(40);
        x.wheel(80);
        x.nearest(4, 1, 2);
        told("two pairs", x, 4, 1, 1, 0, 3, 2);
        x.nearest(8, 1, 3);
        x.wheel(7);
        told("refused ones, other calls tell nothing", x, 4, 1, 1, 0, 3, 2);
        c.is("chosen(-1)", x.chosen(-1), NONE);
        c.is("chosen(max)", x.chosen(Integer.MAX_VALUE), NONE);
        x.nearest(8, 1, 1);
        told("a pair", x, 8, 1, 3, 0);
    }
}
