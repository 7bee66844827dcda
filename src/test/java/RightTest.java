/** Promises 37 to 40: PLATES that are RIGHT, and PUTTING RIGHT. */
public final class RightTest {
    private static final int BAD = HammerTowers.BAD, NONE = HammerTowers.NONE;
    private static final Checks c = new Checks("RightTest");

    public static void main(String[] args) {
        promise37Right();
        promise37RightOfQuarters();
        promise38Off();
        promise37And38Refused();
        promise39PutRight();
        promise39PutRightByTrial();
        promise39Refused();
        promise40Act();
        c.end();
    }

    private static void promise37Right() {
        HammerTowers x = Made.withTower();
        Made.plate(x, Made.HOURS);
        x.hang(0, 0, false);
        for (int hour = 0; hour < 24; hour++) {
            for (int minute = 0; minute < 60; minute += 59) {
                x.hands(0, hour * 60 + minute);
                x.put(0, hour % 12);
                c.is("right at " + hour + ":" + minute, x.right(0, false), 1);
                x.put(0, (hour + 1) % 12);
                c.is("not right at " + hour + ":" + minute, x.right(0, false), 0);
            }
        }
        c.is("putting HANDS and PLATE changes nothing else", x.count(5), 0);
    }

    private static void promise37RightOfQuarters() {
        HammerTowers x = Made.withTower();
        Made.barrel(x, Made.QUARTERS, 1);
        x.hang(0, 0, true);
        for (int minute = 0; minute < 60; minute++) {
            x.hands(0, 180 + minute);
            x.put(0, minute / 15);
            c.is("right at minute " + minute, x.right(0, true), 1);
            x.put(0, (minute / 15 + 3) % 4);
            c.is("not right at minute " + minute, x.right(0, true), 0);
        }
    }

    private static void promise38Off() {
        HammerTowers x = Made.withTower();
        Made.plate(x, 1, 2, 3, 4, 5);
        Made.plate(x, 1, 2, 3);
        x.hang(0, 0, false);
        x.hang(0, 1, true);
        x.hands(0, 11 * 60 + 50);
        c.is("off(): hour 12 of 5 NOTCHES is at 1", x.off(0, false), 4);
        c.is("off(): quarter 4 of 3 NOTCHES is at 0", x.off(0, true), 0);
        x.put(0, 3);
        x.put(1, 2);
        c.is("off() ahead", x.off(0, false), 2);
        c.is("off() ahead", x.off(0, true), 2);
        x.hands(0, 13 * 60);
        c.is("off(): hour 2 is at 1", x.off(0, false), 2);
        x.hands(0, 12 * 60);
        c.is("off(): hour 1 behind 12 is at 0", x.off(0, false), 3);
        c.is("right()", x.right(0, false), 0);
        x.put(0, 0);
        c.is("right()", x.right(0, false), 1);
    }

    private static void promise37And38Refused() {
        HammerTowers x = Made.withTower();
        Made.snail(x, 1, 2);
        x.train();
        c.finds(x, "right(0, true): none is there", Checks.NOTHING, () -> x.right(0, true));
        c.finds(x, "off(0, false): none is there", Checks.NOTHING, () -> x.off(0, false));
        x.hang(0, 0, false);
        x.hang(0, 1, true);
        c.finds(x, "right() of a SNAIL", Checks.UNLIKE, () -> x.right(0, false));
        c.finds(x, "off() of a SNAIL", Checks.UNLIKE, () -> x.off(0, false));
        c.finds(x, "right() of KIND 0", Checks.UNLIKE, () -> x.right(0, true));
        c.finds(x, "off() of KIND 0", Checks.UNLIKE, () -> x.off(0, true));
        c.finds(x, "right(1, true): missing", Checks.NOTHING, () -> x.right(1, true));
        c.finds(x, "off(1, true): missing", Checks.NOTHING, () -> x.off(1, true));
        c.refused(x, "right(4, true)", BAD, () -> x.right(4, true));
        c.refused(x, "off(4, true)", BAD, () -> x.off(4, true));
        c.refused(x, "right(-1, false)", BAD, () -> x.right(-1, false));
        c.refused(x, "off(-1, false)", BAD, () -> x.off(-1, false));
    }

    private static void promise39PutRight() {
        HammerTowers x = Made.withTower();
        Made.plate(x, Made.HOURS);
        x.hang(0, 0, false);
        long before = x.digest();
        c.is("putRight(0, 1): RIGHT as it is", x.putRight(0, 1), 0);
        c.is("asked()", x.asked(), 0);
        c.is("putRight(0, 2)", x.putRight(0, 2), 1);
        c.is("asked()", x.asked(), 1);
        c.is("act(0): B", x.act(0), 1);
        c.is("act(1)", x.act(1), NONE);
        x.hands(0, 60);
        c.is("putRight(0, 1): HANDS back", x.putRight(0, 1), 0);
        c.is("asked()", x.asked(), 1);
        c.is("act(0): C", x.act(0), 2);
        c.is("putRight(0, 2): by hand", x.putRight(0, 2), 1);
        c.is("act(0): A", x.act(0), 0);
        x.hands(0, 0);
        c.is("nothing changes", x.digest(), before);
    }

    /** All PLATES, HANDS and hours, against the least of all rows of acts. */
    private static void promise39PutRightByTrial() {
        int[] strokes = {3, 1, 24, 2, 2, 7, 1, 1, 5, 9, 1, 12};
        for (int next = 0; next < 12; next++) {
            for (int at = 0; at < 12; at++) {
                HammerTowers x = Made.withTower();
                Made.barrel(x, strokes, 1);
                x.hang(0, 0, false);
                x.hands(0, next * 60 + 720 * (at % 2) + 7);
                x.put(0, at);
                for (int told = 0; told < 12; told++) {
                    oneTrial(x, strokes, next, at, told);
                }
            }
        }
    }

    private static void oneTrial(HammerTowers x, int[] strokes, int next, int at, int told) {
        String call = "putRight() for " + (told + 1) + " from " + (next + 1) + " at NOTCH " + at;
        int[] best = leastOf(strokes, told);
        int least = best[next * 12 + at];
        c.is(call, x.putRight(0, told + 1), least / 1000);
        c.is(call + ", asked()", x.asked(), least % 1000);
        int h = next;
        int p = at;
        for (int i = 0; i < least % 1000; i++) {
            int act = firstAct(best, strokes, h, p);
            c.is(call + ", act(" + i + ")", x.act(i), act);
            h = act == 0 ? h : act == 1 ? (h + 1) % 12 : (h + 11) % 12;
            p = act == 2 ? p : (p + 1) % 12;
        }
        c.is(call + ", the act behind", x.act(least % 1000), NONE);
    }

    /** The first act from which on the least is still to be had. */
    private static int firstAct(int[] best, int[] strokes, int h, int p) {
        int here = best[h * 12 + p];
        int cost = strokes[p] * 1000 + 1;
        if (best[h * 12 + (p + 1) % 12] + cost == here) {
            return 0;
        }
        return best[(h + 1) % 12 * 12 + (p + 1) % 12] + cost == here ? 1 : 2;
    }

    /** From each hour and NOTCH to a told one, by trying until nothing gets less: strokes by 1000, and acts. */
    private static int[] leastOf(int[] strokes, int told) {
        int[] best = new int[144];
        java.util.Arrays.fill(best, 1 << 28);
        best[told * 12 + told] = 0;
        for (boolean changed = true; changed;) {
            changed = false;
            for (int h = 0; h < 12; h++) {
                for (int p = 0; p < 12; p++) {
                    int cost = strokes[p] * 1000 + 1;
                    int a = best[h * 12 + (p + 1) % 12] + cost;
                    int b = best[(h + 1) % 12 * 12 + (p + 1) % 12] + cost;
                    int back = best[(h + 11) % 12 * 12 + p] + 1;
                    int least = Math.min(a, Math.min(b, back));
                    if (least < best[h * 12 + p]) {
                        best[h * 12 + p] = least;
                        changed = true;
                    }
                }
            }
        }
        return best;
    }

    private static void promise39Refused() {
        HammerTowers x = Made.withTower();
        c.finds(x, "putRight(): no HOUR TRAIN", Checks.NOTHING, () -> x.putRight(0, 1));
        x.train();
        Made.snail(x, Made.HOURS);
        Made.plate(x, 1, 2, 3, 4, 5, 6, 7, 8, 9, 10, 11);
        Made.plate(x, Made.HOURS);
        x.hang(0, 3, true);
        c.finds(x, "putRight(): a QUARTER TRAIN alone", Checks.NOTHING, () -> x.putRight(0, 1));
        x.hang(0, 0, false);
        c.finds(x, "putRight(): KIND 0", Checks.UNLIKE, () -> x.putRight(0, 1));
        x.hang(0, 1, false);
        c.finds(x, "putRight(): a SNAIL", Checks.UNLIKE, () -> x.putRight(0, 1));
        x.hang(0, 2, false);
        c.finds(x, "putRight(): 11 NOTCHES", Checks.UNLIKE, () -> x.putRight(0, 1));
        x.unhang(0, true);
        x.hang(0, 3, false);
        x.putRight(0, 5);
        c.refused(x, "putRight(0, 0)", BAD, () -> x.putRight(0, 0));
        c.refused(x, "putRight(0, 13)", BAD, () -> x.putRight(0, 13));
        c.refused(x, "putRight(4, 1)", BAD, () -> x.putRight(4, 1));
        c.refused(x, "putRight(-1, 1)", BAD, () -> x.putRight(-1, 1));
        c.refused(x, "putRight(1, 0): BAD before NOTHING", BAD, () -> x.putRight(1, 0));
        c.finds(x, "putRight(1, 1): missing", Checks.NOTHING, () -> x.putRight(1, 1));
    }

    private static void promise40Act() {
        HammerTowers x = Made.withTower();
        c.is("act(0) before", x.act(0), NONE);
        Made.plate(x, Made.HOURS);
        x.hang(0, 0, false);
        x.hands(0, 130);
        x.putRight(0, 12);
        for (int i = 0; i < 11; i++) {
            c.is("act(" + i + ")", x.act(i), i < 2 ? 0 : 1);
        }
        c.is("act(11)", x.act(11), NONE);
        c.is("act(-1)", x.act(-1), NONE);
        c.is("act(max)", x.act(Integer.MAX_VALUE), NONE);
        x.putRight(0, 0);
        x.putRight(1, 1);
        c.is("act(10): refused ones tell nothing", x.act(10), 1);
        x.putRight(0, 1);
        c.is("act(0) of the next", x.act(0), 2);
        c.is("act(1) of the next", x.act(1), 2);
        c.is("act(2) of the next", x.act(2), NONE);
    }
}
