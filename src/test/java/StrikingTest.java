/** Promises 29 to 31, 33 and 34: how TRAINS are LET OFF, run and are HEARD. */
public final class StrikingTest {
    private static final int BAD = HammerTowers.BAD, FULL = HammerTowers.FULL, NONE = HammerTowers.NONE;
    private static final Checks c = new Checks("StrikingTest");

    public static void main(String[] args) {
        promise29LetOff();
        promise29LetOffSteps();
        promise29LetOffWarnedAndLocked();
        promise30RunOut();
        promise30RunOutLifts();
        promise30LiftsByOthers();
        promise30LiftsNot();
        promise31Pass();
        promise31PassToTheEnd();
        promise31PaceAndWeight();
        promise31Lifts();
        promise31Locked();
        promise31Mute();
        promise31TowersInOrder();
        promise33Log();
        promise34Heard();
        c.end();
    }

    private static void promise29LetOff() {
        HammerTowers x = Made.withTower();
        x.train();
        Made.plate(x, 3, 5);
        Made.snail(x, Made.HOURS);
        x.hang(0, 0, false);
        c.is("letOff() of KIND 0", x.letOff(0, false), 1);
        c.is("letOff() of KIND 0 again", x.letOff(0, false), 2);
        x.hang(0, 1, false);
        c.is("letOff() of a PLATE", x.letOff(0, false), 3);
        c.is("it stands at the next one", x.told(1, 2), 1);
        c.is("letOff() of a PLATE again", x.letOff(0, false), 8);
        c.is("it goes round", x.told(1, 2), 0);
        c.is("letOff() of a PLATE, round", x.letOff(0, false), 11);
        x.hang(0, 2, false);
        x.hands(0, 7 * 60);
        c.is("letOff() of a SNAIL", x.letOff(0, false), 7);
        x.hands(0, 14 * 60 + 59);
        c.is("letOff() of a SNAIL: instead", x.letOff(0, false), 2);
        c.is("nothing is struck", x.count(5), 0);
        c.finds(x, "letOff(0, true): none is there", Checks.NOTHING, () -> x.letOff(0, true));
        c.finds(x, "letOff(1, false): missing", Checks.NOTHING, () -> x.letOff(1, false));
        c.refused(x, "letOff(4, false)", BAD, () -> x.letOff(4, false));
        c.refused(x, "letOff(-1, true)", BAD, () -> x.letOff(-1, true));
    }

    private static void promise29LetOffSteps() {
        HammerTowers x = Made.withTower();
        Made.snail(x, Made.HOURS);
        Made.snail(x, 11, 12, 13, 14);
        Made.snail(x, 5, 6, 7, 8, 9);
        Made.snail(x, 21, 22, 23);
        x.hang(0, 0, false);
        x.hang(0, 1, true);
        for (int minute = 0; minute < 1440; minute += 15) {
            x.hands(0, minute + 14);
            int hour = minute / 60 % 12 == 0 ? 12 : minute / 60 % 12;
            c.is("hour at " + minute, x.letOff(0, false), hour);
            c.is("quarter at " + minute, x.letOff(0, true), minute % 60 == 0 ? 14 : 10 + minute % 60 / 15);
        }
        x.hang(0, 2, false);
        x.hang(0, 3, true);
        x.hands(0, 0);
        c.is("STEPS modulo: hour 12 of 5", x.letOff(0, false), 6);
        c.is("STEPS modulo: quarter 4 of 3", x.letOff(0, true), 21);
        x.hands(0, 6 * 60 + 30);
        c.is("STEPS modulo: hour 6 of 5", x.letOff(0, false), 5);
        c.is("STEPS modulo: quarter 2 of 3", x.letOff(0, true), 22);
    }

    private static void promise29LetOffWarnedAndLocked() {
        HammerTowers x = Made.withTower();
        x.train();
        x.hang(0, 0, false);
        x.hands(0, 54);
        x.forward(0, 1);
        x.silence(0, 0, 23, 1);
        c.is("letOff() as it is LOCKED", x.letOff(0, false), 1);
        c.is("it stays WARNED", x.tells(0, 6), 1);
        x.hands(0, 10);
        x.hang(0, x.train(), true);
        c.is("letOff() as it is not WARNED", x.letOff(0, true), 1);
        c.is("it stays so", x.tells(0, 7), 0);
    }

    private static void promise30RunOut() {
        HammerTowers x = Made.withTower();
        Made.plate(x, 20, 4);
        x.hang(0, 0, false);
        c.is("runOut(), nothing DUE", x.runOut(0, false), 0);
        x.gear(0, 1, 22);
        x.pass(5);
        x.letOff(0, false);
        c.is("runOut(): PACE aside", x.runOut(0, false), 20);
        c.all("LOG", Made.entry(x, 0, 0), 5, 0, 20, 1);
        x.letOff(0, false);
        c.is("runOut(): WEIGHT not", x.runOut(0, false), 2);
        c.is("what is DUE stays", x.told(0, 5), 2);
        c.is("runOut(), no WEIGHT", x.runOut(0, false), 0);
        c.is("no entry for nothing", Made.entries(x, 0), 2);
        c.is("strokes ever", x.told(0, 7), 22);
        x.wind(0);
        x.silence(0, 0, 1, 0);
        c.is("runOut(), MUTE", x.runOut(0, false), 2);
        c.is("MUTE, no entry", Made.entries(x, 0), 2);
        c.finds(x, "runOut(0, true): none is there", Checks.NOTHING, () -> x.runOut(0, true));
        c.finds(x, "runOut(1, false): missing", Checks.NOTHING, () -> x.runOut(1, false));
        c.refused(x, "runOut(4, false)", BAD, () -> x.runOut(4, false));
        c.refused(x, "runOut(-1, true)", BAD, () -> x.runOut(-1, true));
    }

    /** A PLATE as QUARTER TRAIN lifts from its last NOTCH, whatever the HANDS tell. */
    private static void promise30RunOutLifts() {
        HammerTowers x = Made.withTower();
        Made.plate(x, 2, 3);
        Made.snail(x, Made.HOURS);
        x.hang(0, 0, true);
        x.hang(0, 1, false);
        x.letOff(0, true);
        x.runOut(0, true);
        c.is("its first NOTCH doesn't lift", x.told(1, 5), 0);
        x.letOff(0, true);
        x.hands(0, 5 * 60 + 20);
        c.is("runOut()", x.runOut(0, true), 3);
        c.is("its last NOTCH lifts, by the HANDS then", x.told(1, 5), 5);
        x.put(0, 1);
        x.letOff(0, true);
        x.letOff(0, true);
        x.runOut(0, true);
        c.is("its last LET OFF tells, not one before", x.told(1, 5), 5);
        x.runOut(0, false);
        x.gear(0, 30, 2);
        x.put(0, 1);
        x.letOff(0, true);
        c.is("runOut() in part", x.runOut(0, true), 2);
        c.is("lifts not before its last stroke", x.told(1, 5), 0);
        x.wind(0);
        x.runOut(0, true);
        c.is("lifts by its last stroke", x.told(1, 5), 5);
        x.runOut(0, false);
        c.is("runOut(), nothing DUE", x.runOut(0, true), 0);
        c.is("lifts no second time", x.told(1, 5), 0);
    }

    /** KIND 0 and a SNAIL lift by q 4, whatever their STEPS. */
    private static void promise30LiftsByOthers() {
        HammerTowers x = Made.withTower();
        Made.snail(x, 2, 3);
        x.train();
        x.train();
        x.hang(0, 2, false);
        for (int train = 0; train < 2; train++) {
            x.hang(0, train, true);
            for (int minute = 0; minute < 60; minute++) {
                x.hands(0, minute);
                x.letOff(0, true);
                x.runOut(0, true);
                c.is("TRAIN " + train + " lifts at " + minute, x.runOut(0, false), minute < 15 ? 1 : 0);
            }
        }
        x.hang(0, x.unhang(0, true), true);
        x.hands(0, 0);
        x.letOff(0, true);
        x.hands(0, 20);
        x.letOff(0, true);
        x.runOut(0, true);
        c.is("the last LET OFF was at q 1", x.told(2, 5), 0);
    }

    private static void promise30LiftsNot() {
        HammerTowers x = Made.withTower();
        Made.plate(x, 1);
        x.train();
        x.hang(0, 0, true);
        x.letOff(0, true);
        c.is("runOut() without an HOUR TRAIN", x.runOut(0, true), 1);
        x.hang(0, 1, false);
        x.silence(0, 0, 1, 1);
        x.letOff(0, true);
        c.is("runOut() LOCKED", x.runOut(0, true), 1);
        c.is("not lifted as it is LOCKED", x.told(1, 5), 0);
        x.silence(0, 0, 1, 0);
        x.letOff(0, true);
        x.runOut(0, true);
        c.is("lifted as it is MUTE", x.told(1, 5), 1);
        x.silence(0, 0, 0, 0);
        x.unhang(0, true);
        x.hands(0, 54);
        x.forward(0, 1);
        x.hang(0, 0, true);
        x.letOff(0, true);
        x.runOut(0, true);
        c.is("lifted", x.told(1, 5), 2);
        c.is("it stays WARNED", x.tells(0, 6), 1);
        x.unhang(0, false);
        x.unhang(0, true);
        x.hang(0, 0, false);
        x.hang(0, 1, true);
        x.letOff(0, false);
        c.is("an HOUR TRAIN", x.runOut(0, false), 1);
        c.is("lifts nothing", x.told(1, 5), 0);
    }

    private static void promise31Pass() {
        HammerTowers x = Made.withTower();
        Made.plate(x, Made.HOURS);
        x.hang(0, 0, false);
        c.is("pass(0)", x.pass(0), 0);
        c.is("pass(59)", x.pass(59), 59);
        c.is("nothing struck yet", x.count(5), 0);
        c.is("pass(1)", x.pass(1), 60);
        c.all("LOG: NOW before it is one more", Made.entry(x, 0, 0), 59, 0, 1, 1);
        c.is("pass(3000)", x.pass(3000), 3060);
        c.is("strokes: 51 hours", x.count(5), 4 * 78 + 1 + 2 + 3);
        c.is("GOING WEIGHT", x.tells(0, 2), 20000 - 3060);
        c.is("HANDS", x.tells(0, 0), 3060 - 2880);
        c.refused(x, "pass(3001)", BAD, () -> x.pass(3001));
        c.refused(x, "pass(-1)", BAD, () -> x.pass(-1));
        c.is("a tower that is missing doesn't pass", x.tells(1, 0), HammerTowers.FINDING);
    }

    private static void promise31PassToTheEnd() {
        HammerTowers x = new HammerTowers();
        for (int i = 0; i < 333; i++) {
            x.pass(3000);
        }
        c.is("NOW", x.count(0), 999000);
        c.refused(x, "pass(1001)", FULL, () -> x.pass(1001));
        c.refused(x, "pass(3001): BAD before FULL", BAD, () -> x.pass(3001));
        c.is("pass(1000)", x.pass(1000), 1000000);
        c.refused(x, "pass(1)", FULL, () -> x.pass(1));
        c.is("pass(0)", x.pass(0), 1000000);
    }

    private static void promise31PaceAndWeight() {
        HammerTowers x = Made.withTower();
        Made.snail(x, 12);
        x.hang(0, 0, false);
        x.gear(0, 5, 11);
        x.letOff(0, false);
        x.pass(1);
        c.is("DUE behind a MINUTE", x.told(0, 5), 7);
        x.pass(1);
        c.is("DUE behind two", x.told(0, 5), 2);
        x.pass(2);
        c.is("the WEIGHT ran out in the middle", x.told(0, 5), 1);
        c.is("WEIGHT", x.told(0, 4), 0);
        c.all("LOG", Made.entry(x, 0, 0), 2, 0, 1, 1);
        c.is("entries", Made.entries(x, 0), 3);
        x.letOff(0, false);
        x.wind(0);
        x.pass(1);
        c.is("it goes on", x.told(0, 5), 7);
    }

    /** In the MINUTE of the lifting, the HOUR TRAIN runs behind the QUARTER TRAIN. */
    private static void promise31Lifts() {
        HammerTowers x = Made.withTower();
        Made.plate(x, Made.QUARTERS);
        Made.plate(x, Made.HOURS);
        x.hang(0, 0, true);
        x.hang(0, 1, false);
        x.hands(0, 0);
        x.pass(60);
        c.all("LOG: the hour", Made.entry(x, 0, 0), 59, 1, 1, 1);
        c.all("LOG: four quarters", Made.entry(x, 0, 1), 59, 0, 4, 1);
        c.all("LOG: three quarters", Made.entry(x, 0, 2), 44, 0, 3, 1);
        x.gear(0, 1, 1000);
        x.pass(60);
        c.is("told(0, 5): PACE 1, three are left", x.told(0, 5), 3);
        c.is("told(1, 7): not lifted yet", x.told(1, 7), 1);
        x.pass(2);
        c.is("told(1, 7): nor two MINUTES on", x.told(1, 7), 1);
        x.pass(1);
        c.all("LOG: lifted by the last stroke", Made.entry(x, 0, 0), 122, 1, 2, 1);
    }

    private static void promise31Locked() {
        HammerTowers x = Made.withTower();
        Made.plate(x, Made.HOURS);
        x.hang(0, 0, false);
        x.silence(0, 1, 3, 1);
        x.pass(170);
        c.is("LOCKED, nothing is LET OFF", x.told(0, 5) + x.told(0, 7), 0);
        c.is("the PLATE stands", x.told(0, 2), 0);
        c.is("it stays WARNED", x.tells(0, 6), 1);
        x.pass(10);
        c.is("at 3 it is LET OFF: it has lost its place", x.told(0, 7), 1);
        c.is("WARNED no more", x.tells(0, 6), 0);
        c.is("off()", x.off(0, false), 10);
    }

    private static void promise31Mute() {
        HammerTowers x = Made.withTower();
        Made.plate(x, Made.HOURS);
        x.hang(0, 0, false);
        x.silence(0, 1, 3, 0);
        x.pass(179);
        c.is("MUTE, all strokes are struck", x.told(0, 7), 3);
        c.is("MUTE, no stroke is heard", Made.entries(x, 0), 0);
        x.pass(1);
        c.all("LOG", Made.entry(x, 0, 0), 179, 0, 3, 1);
    }

    private static void promise31TowersInOrder() {
        HammerTowers x = new HammerTowers();
        for (int t = 3; t >= 0; t--) {
            x.tower(t);
            x.hang(t, x.train(), false);
            x.hands(t, 50 + t);
        }
        x.pass(10);
        for (int t = 0; t < 4; t++) {
            c.all("LOG of TOWER " + t, Made.entry(x, t, 0), 9 - t, 3 - t, 1, 1);
        }
    }

    private static void promise33Log() {
        HammerTowers x = Made.withTower();
        Made.barrel(x, new int[] {2}, 1, 2, 4, 128);
        x.hang(0, 0, true);
        x.go(0, false);
        c.is("log() of none", x.log(0, 0, 0), NONE);
        for (int i = 0; i < 61; i++) {
            x.letOff(0, true);
            x.runOut(0, true);
            x.pass(1);
        }
        c.all("the latest", Made.entry(x, 0, 0), 60, 0, 2, 3);
        c.all("the one before", Made.entry(x, 0, 1), 59, 0, 2, 132);
        c.all("the 60th", Made.entry(x, 0, 59), 1, 0, 2, 132);
        c.is("entries", Made.entries(x, 0), 60);
        c.is("log(0, 60, 0)", x.log(0, 60, 0), NONE);
        c.is("log(0, -1, 0)", x.log(0, -1, 0), NONE);
        c.is("log(0, max, 3)", x.log(0, Integer.MAX_VALUE, 3), NONE);
        c.refused(x, "log(0, 0, 4)", BAD, () -> x.log(0, 0, 4));
        c.refused(x, "log(0, 0, -1)", BAD, () -> x.log(0, 0, -1));
        c.refused(x, "log(0, 99, 4): BAD before NONE", BAD, () -> x.log(0, 99, 4));
        c.refused(x, "log(4, 0, 0)", BAD, () -> x.log(4, 0, 0));
        c.finds(x, "log(1, 0, 0)", Checks.NOTHING, () -> x.log(1, 0, 0));
    }

    private static void promise34Heard() {
        HammerTowers x = Made.withTower();
        Made.plate(x, Made.HOURS);
        x.hang(0, 0, false);
        x.pass(300);
        c.is("heard() all", x.heard(0, 0, 300), 15);
        c.is("heard(0, 59, 179): both in it", x.heard(0, 59, 179), 6);
        c.is("heard(0, 60, 178)", x.heard(0, 60, 178), 2);
        c.is("heard(0, 119, 119)", x.heard(0, 119, 119), 2);
        c.is("heard(0, 120, 120)", x.heard(0, 120, 120), 0);
        c.is("heard() to the last number", x.heard(0, 0, Integer.MAX_VALUE), 15);
        c.refused(x, "heard(0, 2, 1)", BAD, () -> x.heard(0, 2, 1));
        c.refused(x, "heard(0, -1, 1)", BAD, () -> x.heard(0, -1, 1));
        c.refused(x, "heard(0, -2, -1)", BAD, () -> x.heard(0, -2, -1));
        c.refused(x, "heard(4, 0, 1)", BAD, () -> x.heard(4, 0, 1));
        c.refused(x, "heard(1, 1, 0): BAD before NOTHING", BAD, () -> x.heard(1, 1, 0));
        c.finds(x, "heard(1, 0, 1)", Checks.NOTHING, () -> x.heard(1, 0, 1));
        x.pass(3000);
        x.pass(420);
        c.is("heard(): the latest 60 alone", x.heard(0, 0, 5000), 78 * 5);
        c.is("heard(): of the first two none is kept", x.heard(0, 0, 119), 0);
    }
}
