import java.util.function.IntUnaryOperator;

/** Promises 19 to 28, 32, 35 and 36: TOWERS, their HANDS and how they go. */
public final class TowersTest {
    private static final int BAD = HammerTowers.BAD, STATE = HammerTowers.STATE, NONE = HammerTowers.NONE;
    private static final Checks c = new Checks("TowersTest");

    public static void main(String[] args) {
        promise19Tower();
        promise20Hang();
        promise21Unhang();
        promise22Hands();
        promise23Forward();
        promise24Back();
        promise25Rate();
        promise26Go();
        promise27WindGoing();
        promise27SumThatStays();
        promise28Silence();
        promise32Tells();
        promise35Ahead();
        promise36Meet();
        promise36MeetNever();
        c.end();
    }

    private static long[] tells(HammerTowers x, int t) {
        long[] all = new long[9];
        for (int what = 0; what < 9; what++) {
            all[what] = x.tells(t, what);
        }
        return all;
    }

    /** A TOWER's number that is none, and one that is missing. */
    private static void wrongTowers(String call, HammerTowers x, IntUnaryOperator asks) {
        c.refused(x, call + " of TOWER -1", BAD, () -> asks.applyAsInt(-1));
        c.refused(x, call + " of TOWER 4", BAD, () -> asks.applyAsInt(4));
        c.finds(x, call + " of a missing TOWER", Checks.NOTHING, () -> asks.applyAsInt(3));
    }

    private static void promise19Tower() {
        HammerTowers x = new HammerTowers();
        c.is("tower(0)", x.tower(0), 0);
        c.is("tower(3)", x.tower(3), 0);
        c.is("count(2)", x.count(2), 2);
        c.all("tells() of a new TOWER", tells(x, 3), 0, 0, 20000, 1, NONE, NONE, 0, 0, 0);
        x.train();
        x.train();
        x.hang(0, 0, false);
        x.hang(0, 1, true);
        x.hands(0, 70);
        x.rate(0, 3600);
        x.silence(0, 0, 23, 1);
        x.letOff(0, true);
        x.letOff(0, false);
        x.runOut(0, true);
        x.pass(10);
        x.go(0, false);
        c.is("entries before", Made.entries(x, 0), 2);
        c.is("tower(0) anew", x.tower(0), 1);
        c.all("tells() of a TOWER anew", tells(x, 0), 0, 0, 20000, 1, NONE, NONE, 0, 0, 0);
        c.is("its LOG is empty", Made.entries(x, 0), 0);
        c.is("its HOUR TRAIN is free", x.told(0, 6), NONE);
        c.is("its QUARTER TRAIN is free", x.told(1, 6), NONE);
        x.pass(1);
        c.is("its SUM by RATE 0", x.tells(0, 1), 0);
        c.is("count(2)", x.count(2), 2);
        c.refused(x, "tower(4)", BAD, () -> x.tower(4));
        c.refused(x, "tower(-1)", BAD, () -> x.tower(-1));
    }

    private static void promise20Hang() {
        HammerTowers x = new HammerTowers();
        x.tower(0);
        x.tower(1);
        Made.plate(x, 5, 6);
        Made.plate(x, 7);
        x.train();
        c.is("hang(0, 0, false)", x.hang(0, 0, false), NONE);
        c.is("hang(0, 1, true)", x.hang(0, 1, true), NONE);
        c.is("told(1, 6)", x.told(1, 6), 0);
        c.is("tells(0, 4)", x.tells(0, 4), 0);
        c.is("tells(0, 5)", x.tells(0, 5), 1);
        c.refused(x, "hang(1, 0, true): it has a place", STATE, () -> x.hang(1, 0, true));
        c.refused(x, "hang(0, 0, false): its own place", STATE, () -> x.hang(0, 0, false));
        c.refused(x, "hang(0, 3, false)", BAD, () -> x.hang(0, 3, false));
        c.refused(x, "hang(0, -1, false)", BAD, () -> x.hang(0, -1, false));
        wrongTowers("hang(), STATE behind NOTHING,", x, t -> x.hang(t, 0, false));
        x.letOff(0, false);
        x.forward(0, 10);
        c.is("tells(0, 7): WARNED", x.tells(0, 7), 1);
        c.is("hang(0, 2, true) instead of 1", x.hang(0, 2, true), 1);
        c.is("told(1, 6): it is free", x.told(1, 6), NONE);
        c.is("tells(0, 7): not WARNED", x.tells(0, 7), 0);
        c.is("hang(0, 1, false) instead of 0", x.hang(0, 1, false), 0);
        c.is("told(0, 5): what was DUE of that which is free", x.told(0, 5), 5);
        c.is("hang(1, 0, false)", x.hang(1, 0, false), NONE);
        c.is("told(0, 5): nothing is DUE", x.told(0, 5), 0);
        c.is("told(0, 2): it stands as it stood", x.told(0, 2), 1);
        c.is("told(0, 6)", x.told(0, 6), 1);
        x.tower(2);
        x.unhang(0, true);
        x.hang(2, 2, true);
        x.forward(2, 10);
        x.unhang(2, true);
        x.hang(2, 2, true);
        c.is("tells(2, 7): it comes back not WARNED", x.tells(2, 7), 0);
    }

    private static void promise21Unhang() {
        HammerTowers x = Made.withTower();
        x.train();
        x.train();
        x.hang(0, 0, false);
        x.hang(0, 1, true);
        c.is("unhang(0, true)", x.unhang(0, true), 1);
        c.is("told(1, 6)", x.told(1, 6), NONE);
        c.is("tells(0, 5)", x.tells(0, 5), NONE);
        c.is("tells(0, 4): the other stays", x.tells(0, 4), 0);
        c.finds(x, "unhang(0, true): none is there", Checks.NOTHING, () -> x.unhang(0, true));
        c.is("unhang(0, false)", x.unhang(0, false), 0);
        wrongTowers("unhang()", x, t -> x.unhang(t, false));
    }

    private static void promise22Hands() {
        HammerTowers x = Made.withTower();
        x.train();
        x.hang(0, 0, false);
        c.is("hands(0, 1439)", x.hands(0, 1439), 0);
        c.is("hands(0, 54)", x.hands(0, 54), 1439);
        x.hands(0, 55);
        c.is("tells(0, 6): put there, it is not WARNED", x.tells(0, 6), 0);
        x.hands(0, 54);
        x.forward(0, 1);
        x.hands(0, 60);
        c.is("tells(0, 6): it stays WARNED", x.tells(0, 6), 1);
        c.is("told(0, 5): put there, nothing is LET OFF", x.told(0, 5), 0);
        c.is("tells(0, 0)", x.tells(0, 0), 60);
        c.refused(x, "hands(0, 1440)", BAD, () -> x.hands(0, 1440));
        c.refused(x, "hands(0, -1)", BAD, () -> x.hands(0, -1));
        c.refused(x, "hands(3, -1): BAD before NOTHING", BAD, () -> x.hands(3, -1));
        wrongTowers("hands()", x, t -> x.hands(t, 0));
    }

    private static void promise23Forward() {
        HammerTowers x = Made.withTower();
        Made.plate(x, 1, 2, 3);
        Made.plate(x, Made.QUARTERS);
        x.hang(0, 0, false);
        c.is("forward(0, 0)", x.forward(0, 0), 0);
        c.is("forward(0, 54)", x.forward(0, 54), 54);
        c.is("not WARNED yet", x.tells(0, 6), 0);
        c.is("forward(0, 1)", x.forward(0, 1), 55);
        c.is("WARNED", x.tells(0, 6), 1);
        c.is("forward(0, 5)", x.forward(0, 5), 60);
        c.is("WARNED no more", x.tells(0, 6), 0);
        c.is("LET OFF, not struck", x.told(0, 5), 1);
        c.is("forward(0, 1500)", x.forward(0, 1500), 120);
        c.is("25 hours more are DUE", x.told(0, 5), 1 + 2 + 3 + 1 + 7 * 6 + 2);
        c.is("no time went by", x.count(0), 0);
        c.is("no WEIGHT went", x.tells(0, 2), 20000);
        c.is("no TRAIN ran", x.count(5), 0);
        x.hang(0, 1, true);
        x.hands(0, 1439);
        c.is("forward(0, 1), over midnight", x.forward(0, 1), 0);
        c.is("not WARNED, not LET OFF", x.told(1, 5), 0);
        quarters(x);
        c.refused(x, "forward(0, 1501)", BAD, () -> x.forward(0, 1501));
        c.refused(x, "forward(0, -1)", BAD, () -> x.forward(0, -1));
        wrongTowers("forward()", x, t -> x.forward(t, 1));
    }

    /** WARNED and LET OFF minute by minute, from minute 0 with nothing DUE of TRAIN 1, a QUARTER TRAIN. */
    private static void quarters(HammerTowers x) {
        int hourDue = x.told(0, 5);
        int due = 0;
        for (int minute = 1; minute <= 60; minute++) {
            x.forward(0, 1);
            if (minute % 15 == 0) {
                due += minute / 15;
            }
            c.is("WARNED at minute " + minute, x.tells(0, 7), minute % 15 >= 10 ? 1 : 0);
            c.is("DUE at minute " + minute, x.told(1, 5), due);
        }
        c.is("the HOUR TRAIN is not LET OFF beside a QUARTER TRAIN", x.told(0, 5), hourDue);
        c.is("nor WARNED", x.tells(0, 6), 0);
    }

    private static void promise24Back() {
        HammerTowers x = Made.withTower();
        x.train();
        x.hang(0, 0, false);
        c.is("back(0, 0)", x.back(0, 0), 0);
        c.is("back(0, 1)", x.back(0, 1), 1439);
        c.is("back(0, 1500)", x.back(0, 1500), 1379);
        c.is("tells(0, 6)", x.tells(0, 6), 0);
        x.hands(0, 54);
        x.forward(0, 1);
        c.is("back(0, 55)", x.back(0, 55), 0);
        c.is("tells(0, 6): it stays WARNED", x.tells(0, 6), 1);
        c.is("told(0, 5): nothing is LET OFF", x.told(0, 5), 0);
        c.refused(x, "back(0, 1501)", BAD, () -> x.back(0, 1501));
        c.refused(x, "back(0, -1)", BAD, () -> x.back(0, -1));
        wrongTowers("back()", x, t -> x.back(t, 1));
    }

    private static void promise25Rate() {
        HammerTowers x = Made.withTower();
        c.is("rate(0, 3600)", x.rate(0, 3600), 0);
        x.pass(23);
        c.is("SUM behind 23 minutes", x.tells(0, 1), 23 * 3600);
        c.is("HANDS behind 23 minutes", x.tells(0, 0), 23);
        x.pass(1);
        c.is("SUM behind 24 minutes", x.tells(0, 1), 0);
        c.is("HANDS behind 24 minutes: two STEPS at once", x.tells(0, 0), 25);
        c.is("GOING WEIGHT: one for each STEP", x.tells(0, 2), 20000 - 25);
        c.is("rate(0, -3600)", x.rate(0, -3600), 3600);
        x.pass(1);
        c.is("HANDS: no STEP", x.tells(0, 0), 25);
        c.is("SUM", x.tells(0, 1), 82800);
        x.pass(23);
        c.is("HANDS behind 24 minutes", x.tells(0, 0), 25 + 23);
        c.is("SUM behind 24 minutes", x.tells(0, 1), 0);
        c.refused(x, "rate(0, 3601)", BAD, () -> x.rate(0, 3601));
        c.refused(x, "rate(0, -3601)", BAD, () -> x.rate(0, -3601));
        wrongTowers("rate()", x, t -> x.rate(t, 0));
    }

    private static void promise26Go() {
        HammerTowers x = Made.withTower();
        Made.snail(x, 9);
        x.hang(0, 0, false);
        x.gear(0, 2, 100);
        c.is("go(0, true)", x.go(0, true), 1);
        c.is("go(0, false)", x.go(0, false), 1);
        c.is("tells(0, 3)", x.tells(0, 3), 0);
        x.letOff(0, false);
        x.pass(3);
        c.is("HANDS of a TOWER that is STOPPED", x.tells(0, 0), 0);
        c.is("its GOING WEIGHT", x.tells(0, 2), 20000);
        c.is("its TRAIN runs", x.told(0, 7), 6);
        c.is("go(0, true)", x.go(0, true), 0);
        x.pass(3);
        c.is("HANDS of one that GOES", x.tells(0, 0), 3);
        wrongTowers("go()", x, t -> x.go(t, true));
    }

    private static void promise27WindGoing() {
        HammerTowers x = Made.withTower();
        Made.snail(x, 9);
        x.hang(0, 0, false);
        x.gear(0, 2, 100);
        x.letOff(0, false);
        c.is("windGoing(0, 2)", x.windGoing(0, 2), 20000);
        x.pass(4);
        c.is("HANDS go as long as it lasts", x.tells(0, 0), 2);
        c.is("GOING WEIGHT", x.tells(0, 2), 0);
        c.is("SUM doesn't grow without it", x.tells(0, 1), 0);
        c.is("the TRAIN runs without it", x.told(0, 7), 8);
        c.is("windGoing(0, 100000)", x.windGoing(0, 100000), 0);
        x.pass(1);
        c.is("windGoing(0, 0): what was left", x.windGoing(0, 0), 99999);
        c.is("tells(0, 2)", x.tells(0, 2), 0);
        c.refused(x, "windGoing(0, -1)", BAD, () -> x.windGoing(0, -1));
        c.refused(x, "windGoing(0, 100001)", BAD, () -> x.windGoing(0, 100001));
        wrongTowers("windGoing()", x, t -> x.windGoing(t, 1));
    }

    private static void promise27SumThatStays() {
        HammerTowers x = Made.withTower();
        x.rate(0, 3600);
        x.windGoing(0, 24);
        x.pass(24);
        c.is("a second STEP waits for WEIGHT", x.tells(0, 0), 24);
        c.is("SUM of a day's seconds", x.tells(0, 1), 86400);
        x.windGoing(0, 5);
        x.go(0, false);
        x.pass(1);
        c.is("STOPPED, the HANDS don't STEP", x.tells(0, 0), 24);
        x.go(0, true);
        x.rate(0, 0);
        x.pass(1);
        c.is("two STEPS in the next MINUTE", x.tells(0, 0), 26);
        c.is("SUM", x.tells(0, 1), 0);
        c.is("GOING WEIGHT", x.tells(0, 2), 3);
    }

    private static void promise28Silence() {
        HammerTowers x = Made.withTower();
        c.is("silence(0, 22, 6, 0)", x.silence(0, 22, 6, 0), 1);
        for (int hour = 0; hour < 24; hour++) {
            x.hands(0, hour * 60);
            c.is("MUTE, minute 0 of hour " + hour, x.tells(0, 8), hour >= 22 || hour < 6 ? 1 : 0);
            x.hands(0, hour * 60 + 59);
            c.is("MUTE, minute 59 of hour " + hour, x.tells(0, 8), hour >= 22 || hour < 6 ? 1 : 0);
        }
        c.is("silence(0, 6, 22, 1)", x.silence(0, 6, 22, 1), 1);
        for (int hour = 0; hour < 24; hour++) {
            x.hands(0, hour * 60);
            c.is("LOCKED, hour " + hour, x.tells(0, 8), hour >= 6 && hour < 22 ? 2 : 0);
        }
        x.silence(0, 9, 9, 1);
        x.hands(0, 9 * 60);
        c.is("a and b alike: never", x.tells(0, 8), 0);
        c.refused(x, "silence(0, 24, 0, 0)", BAD, () -> x.silence(0, 24, 0, 0));
        c.refused(x, "silence(0, -1, 0, 0)", BAD, () -> x.silence(0, -1, 0, 0));
        c.refused(x, "silence(0, 0, 24, 0)", BAD, () -> x.silence(0, 0, 24, 0));
        c.refused(x, "silence(0, 0, -1, 0)", BAD, () -> x.silence(0, 0, -1, 0));
        c.refused(x, "silence(0, 0, 1, 2)", BAD, () -> x.silence(0, 0, 1, 2));
        c.refused(x, "silence(0, 0, 1, -1)", BAD, () -> x.silence(0, 0, 1, -1));
        wrongTowers("silence()", x, t -> x.silence(t, 0, 1, 0));
    }

    private static void promise32Tells() {
        HammerTowers x = new HammerTowers();
        x.tower(1);
        x.train();
        x.train();
        x.hang(1, 1, false);
        x.hands(1, 54);
        x.rate(1, 7);
        x.pass(1);
        x.hang(1, 0, true);
        x.silence(1, 0, 1, 1);
        c.all("tells()", tells(x, 1), 55, 7, 19999, 1, 1, 0, 1, 0, 2);
        x.go(1, false);
        x.hands(1, 9);
        x.forward(1, 1);
        c.all("tells()", tells(x, 1), 10, 7, 19999, 0, 1, 0, 1, 1, 2);
        x.unhang(1, false);
        x.unhang(1, true);
        c.all("tells() without TRAINS", tells(x, 1), 10, 7, 19999, 0, NONE, NONE, 0, 0, 2);
        c.refused(x, "tells(1, 9)", BAD, () -> x.tells(1, 9));
        c.refused(x, "tells(1, -1)", BAD, () -> x.tells(1, -1));
        c.refused(x, "tells(0, 9): BAD before NOTHING", BAD, () -> x.tells(0, 9));
        wrongTowers("tells()", x, t -> x.tells(t, 0));
    }

    private static void promise35Ahead() {
        HammerTowers x = new HammerTowers();
        x.tower(0);
        x.tower(1);
        int[][] cases = {{0, 0, 0}, {720, 0, 720}, {0, 720, 720}, {721, 0, -719}, {0, 719, -719}, {719, 0, 719},
            {1, 1439, 2}, {1439, 1, -2}};
        for (int[] one : cases) {
            x.hands(0, one[0]);
            x.hands(1, one[1]);
            c.is("ahead(0, 1) at " + one[0] + ", " + one[1], x.ahead(0, 1), one[2]);
        }
        c.is("ahead(0, 0)", x.ahead(0, 0), 0);
        wrongTowers("ahead() first", x, t -> x.ahead(t, 0));
        wrongTowers("ahead() second", x, t -> x.ahead(0, t));
    }

    private static void promise36Meet() {
        HammerTowers x = new HammerTowers();
        x.tower(0);
        x.tower(1);
        c.is("meet(0, 1), alike", x.meet(0, 1), 0);
        x.hands(0, 1);
        x.rate(1, 3600);
        c.is("meet(0, 1): 86400 by 3600", x.meet(0, 1), 24);
        c.is("meet(1, 0)", x.meet(1, 0), 24);
        x.rate(1, 3599);
        c.is("meet(0, 1): cut up", x.meet(0, 1), 25);
        x.rate(1, 0);
        x.rate(0, 3600);
        c.is("meet(0, 1): all round", x.meet(0, 1), 24 * 1439);
        x.rate(0, 1);
        c.is("meet(0, 1): slowly", x.meet(0, 1), 86400 * 1439);
        c.is("meet(1, 0): slowly", x.meet(1, 0), 86400 * 1439);
        x.rate(1, 2);
        x.pass(2);
        c.is("meet(0, 1): SUMS are in it", x.meet(0, 1), 86400 - 2);
        x.hands(0, 0);
        x.hands(1, 0);
        c.is("meet(1, 0): ahead by SUM alone", x.meet(1, 0), 1440 * 86400 - 2);
        x.windGoing(0, 0);
        c.is("meet(0, 0): a TOWER with itself", x.meet(0, 0), 0);
        c.is("meet(0, 1): by RATES alone", x.meet(0, 1), 1440 * 86400 - 2);
        wrongTowers("meet() first", x, t -> x.meet(t, 0));
        wrongTowers("meet() second", x, t -> x.meet(0, t));
    }

    private static void promise36MeetNever() {
        HammerTowers x = new HammerTowers();
        x.tower(0);
        x.tower(1);
        x.hands(0, 1);
        c.is("meet(0, 1): RATES alike", x.meet(0, 1), NONE);
        x.hands(0, 0);
        x.rate(0, 5);
        x.pass(1);
        x.rate(0, 0);
        c.is("meet(0, 1): a second's part ahead", x.meet(0, 1), NONE);
        x.go(1, false);
        c.refused(x, "meet(0, 1): one is STOPPED", STATE, () -> x.meet(0, 1));
        c.refused(x, "meet(1, 0): one is STOPPED", STATE, () -> x.meet(1, 0));
        c.refused(x, "meet(1, 1): STOPPED", STATE, () -> x.meet(1, 1));
        c.finds(x, "meet(1, 2): STATE behind NOTHING", Checks.NOTHING, () -> x.meet(1, 2));
        c.refused(x, "meet(1, 4): BAD before STATE", BAD, () -> x.meet(1, 4));
    }
}
