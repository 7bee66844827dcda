import java.util.Random;

/** Promises 50 to 52: what goes in a day, and how long WEIGHTS last. */
public final class LastingTest {
    private static final int BAD = HammerTowers.BAD, NONE = HammerTowers.NONE;
    private static final Checks c = new Checks("LastingTest");

    public static void main(String[] args) {
        promise50Daily();
        promise50DailyByADay();
        promise51Lasting();
        promise51LastingByTheMinute();
        promise52LastingDays();
        promise52LastingDaysByDays();
        c.end();
    }

    private static void promise50Daily() {
        HammerTowers x = Made.withTower();
        x.train();
        Made.plate(x, 1, 2, 3, 4, 5);
        Made.snail(x, 1, 2, 3, 4, 5);
        Made.barrel(x, new int[] {24}, 1);
        c.is("daily(0, false)", x.daily(0, false), 24);
        c.is("daily(0, true)", x.daily(0, true), 96);
        c.is("daily(1, false): 4 rounds of 5 and 4", x.daily(1, false), 4 * 15 + 10);
        c.is("daily(1, true): 19 rounds of 5 and 1", x.daily(1, true), 19 * 15 + 1);
        x.put(1, 3);
        c.is("daily(1, false) as it stands", x.daily(1, false), 4 * 15 + 4 + 5 + 1 + 2);
        c.is("daily(2, false): hours 1 .. 12 of 5 STEPS", x.daily(2, false), 2 * (15 + 15 + 1 + 2));
        c.is("daily(2, true): quarters 1 .. 4", x.daily(2, true), 24 * 10);
        c.is("daily(3, true)", x.daily(3, true), 96 * 24);
        x.gear(3, 1, 0);
        x.hang(0, 3, false);
        x.letOff(0, false);
        x.silence(0, 0, 23, 1);
        long before = x.digest();
        c.is("daily(3, false): WEIGHT, PACE, DUE, SILENCE aside", x.daily(3, false), 24 * 24);
        c.is("nothing changes", x.digest(), before);
        c.refused(x, "daily(4, false)", BAD, () -> x.daily(4, false));
        c.refused(x, "daily(-1, true)", BAD, () -> x.daily(-1, true));
    }

    /** Against TOWERS whose HANDS are moved on by a day, LET OFF by LET OFF. */
    private static void promise50DailyByADay() {
        Random random = new Random(50);
        for (int run = 0; run < 200; run++) {
            HammerTowers x = Made.withTower();
            int[] strokes = random.ints(1 + random.nextInt(24), 1, 25).toArray();
            boolean quarter = random.nextBoolean();
            int kind = run % 4;
            int train = kind == 0 ? x.train() : kind == 1 ? Made.plate(x, strokes)
                : kind == 2 ? Made.snail(x, strokes) : Made.barrel(x, strokes, 1, 2);
            x.put(train, random.nextInt(strokes.length));
            x.gear(train, 1, 100000);
            int daily = x.daily(train, quarter);
            x.hang(0, train, quarter);
            for (int i = 0; i < 96; i++) {
                x.forward(0, 15);
                x.runOut(0, quarter);
            }
            c.is("daily() of run " + run, daily, x.told(train, 7));
        }
    }

    private static void promise51Lasting() {
        HammerTowers x = Made.withTower();
        c.is("lasting(0) at first", x.lasting(0), 20000);
        x.windGoing(0, 100000);
        x.rate(0, -3600);
        c.is("lasting(0), the longest", x.lasting(0), 104348);
        x.windGoing(0, 0);
        c.is("lasting(0): it is 0", x.lasting(0), 0);
        x.windGoing(0, 1);
        c.is("lasting(0): a MINUTE is not enough", x.lasting(0), 2);
        x.pass(1);
        c.is("lasting(0): from SUM as it is", x.lasting(0), 1);
        x.pass(1);
        c.is("lasting(0): it is 0", x.lasting(0), 0);
        x.windGoing(0, 1);
        x.rate(0, -1);
        x.hands(0, 0);
        c.is("lasting(0): SUM from before is in it", x.lasting(0), 1);
        x.windGoing(0, 7);
        x.go(0, false);
        c.is("lasting(0), STOPPED", x.lasting(0), NONE);
        x.windGoing(0, 0);
        c.is("lasting(0), STOPPED at 0", x.lasting(0), NONE);
        c.finds(x, "lasting(1)", Checks.NOTHING, () -> x.lasting(1));
        c.refused(x, "lasting(4)", BAD, () -> x.lasting(4));
        c.refused(x, "lasting(-1)", BAD, () -> x.lasting(-1));
        HammerTowers z = Made.withTower();
        z.rate(0, -1);
        z.windGoing(0, 1);
        c.is("lasting(0): a second is missing", z.lasting(0), 2);
        HammerTowers y = Made.withTower();
        y.rate(0, 3600);
        y.windGoing(0, 24);
        y.pass(24);
        y.windGoing(0, 1);
        c.is("a SUM that waits for WEIGHT", y.tells(0, 1), 86400);
        c.is("lasting(0): still a MINUTE", y.lasting(0), 1);
    }

    /** Against TOWERS that go on until their WEIGHT is 0. */
    private static void promise51LastingByTheMinute() {
        Random random = new Random(51);
        for (int run = 0; run < 60; run++) {
            HammerTowers x = Made.withTower();
            x.rate(0, random.nextInt(7201) - 3600);
            x.pass(random.nextInt(50));
            x.rate(0, run % 3 == 0 ? 3600 : random.nextInt(7201) - 3600);
            x.windGoing(0, random.nextInt(60));
            int lasting = x.lasting(0);
            int minutes = 0;
            while (x.tells(0, 2) > 0) {
                x.pass(1);
                minutes++;
            }
            c.is("lasting() of run " + run, lasting, minutes);
        }
    }

    private static void promise52LastingDays() {
        HammerTowers x = Made.withTower();
        x.train();
        c.is("lastingDays(0, false)", x.lastingDays(0, false), 41);
        c.is("lastingDays(0, true)", x.lastingDays(0, true), 10);
        x.gear(0, 1, 48);
        c.is("lastingDays(0, false): two days to the stroke", x.lastingDays(0, false), 2);
        x.gear(0, 1, 47);
        c.is("lastingDays(0, false): a stroke less", x.lastingDays(0, false), 1);
        x.gear(0, 1, 0);
        c.is("lastingDays(0, false): no WEIGHT", x.lastingDays(0, false), 0);
        x.gear(0, 1, 100000);
        c.is("lastingDays(0, false): the most", x.lastingDays(0, false), 4166);
        Made.plate(x, 24, 1, 1, 1, 1);
        x.gear(1, 1, 5 * (4 * 28 + 4 + 24));
        c.is("lastingDays(1, false): each day from its NOTCH on", x.lastingDays(1, false), 5);
        x.gear(1, 1, 4 * 28 + 27);
        c.is("lastingDays(1, false): a day from NOTCH 0", x.lastingDays(1, false), 1);
        x.gear(1, 1, 4 * 28 + 26);
        c.is("lastingDays(1, false): less than a day", x.lastingDays(1, false), 0);
        x.put(1, 1);
        x.gear(1, 1, 4 * 28 + 4);
        c.is("lastingDays(1, false): a day from NOTCH 1", x.lastingDays(1, false), 1);
        x.gear(1, 1, 200);
        x.hang(0, 1, false);
        x.letOff(0, false);
        x.runOut(0, false);
        c.is("lastingDays(1, false): of the WEIGHT, not of the FALL", x.lastingDays(1, false), 1);
        x.put(1, 1);
        c.is("told(1, 4)", x.told(1, 4), 199);
        c.refused(x, "lastingDays(2, false)", BAD, () -> x.lastingDays(2, false));
        c.refused(x, "lastingDays(-1, true)", BAD, () -> x.lastingDays(-1, true));
    }

    /** Against daily(), day by day, of a PLATE that is put on by each day's NOTCHES. */
    private static void promise52LastingDaysByDays() {
        Random random = new Random(52);
        for (int run = 0; run < 100; run++) {
            HammerTowers x = new HammerTowers();
            int[] strokes = random.ints(1 + random.nextInt(24), 1, 25).toArray();
            int train = run % 2 == 0 ? Made.plate(x, strokes) : Made.snail(x, strokes);
            boolean quarter = random.nextBoolean();
            int at = random.nextInt(strokes.length);
            x.put(train, at);
            x.gear(train, 30, random.nextInt(20000));
            int lasting = x.lastingDays(train, quarter);
            int left = x.told(train, 4);
            int days = 0;
            while (days < 400 && left >= x.daily(train, quarter)) {
                left -= x.daily(train, quarter);
                at = (at + (quarter ? 96 : 24)) % strokes.length;
                x.put(train, at);
                days++;
            }
            c.is("lastingDays() of run " + run, lasting, days);
        }
    }
}
