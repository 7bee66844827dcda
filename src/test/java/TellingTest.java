/** Promises 53 to 59: what is told of calls, counts, FINDINGS and of all. */
public final class TellingTest {
    private static final int BAD = HammerTowers.BAD, NONE = HammerTowers.NONE;
    private static final Checks c = new Checks("TellingTest");

    public static void main(String[] args) {
        promise53Asked();
        promise54And55Fractions();
        promise56Count();
        promise57And58Findings();
        promise59Digest();
        promise59DigestOfLog();
        c.end();
    }

    private static void promise53Asked() {
        HammerTowers x = Made.withTower();
        c.is("asked() before", x.asked(), 0);
        Made.plate(x, Made.HOURS);
        x.hang(0, 0, false);
        x.putRight(0, 4);
        c.is("asked() by putRight()", x.asked(), 3);
        Made.row(x, 0, 99, 98, 97, 96, 95, 6);
        x.fault(0, 1);
        c.is("asked() by fault()", x.asked(), 5);
        Made.row(x, 1, 1, 3);
        x.windy(1, 1, 0, 0, 0);
        c.is("asked() by windy()", x.asked(), 1);
        x.windy(1, 2, 0, 0, 0);
        c.is("windy() that answers 1 tells nothing", x.asked(), 1);
        x.putRight(0, 13);
        x.putRight(3, 1);
        x.fault(7, 1);
        x.windy(0, 1, 9, 9, 9);
        x.windy(7, 1, 0, 0, 0);
        c.is("refused ones tell nothing", x.asked(), 1);
        x.explained(0, 1);
        x.misfits(0, 1, 0, 0, 0);
        c.is("other calls tell nothing", x.asked(), 1);
        x.putRight(0, 1);
        c.is("asked() by putRight()", x.asked(), 0);
    }

    private static void promise54And55Fractions() {
        HammerTowers x = new HammerTowers();
        c.is("upper() before", x.upper(), 0);
        c.is("lower() before", x.lower(), 1);
        x.wheel(200);
        x.wheel(6);
        x.wheel(198);
        x.wheel(8);
        x.nearest(1, 1, 3);
        c.is("upper(): a refused one tells nothing", x.upper(), 0);
        x.nearest(10000, 1, 2);
        c.is("upper(), lowest terms", x.upper(), 825);
        c.is("lower(), lowest terms", x.lower(), 1);
        x.nearest(1, 10000, 2);
        c.is("upper(), lowest terms", x.upper(), 1);
        c.is("lower(), lowest terms", x.lower(), 825);
        x.mean(0);
        x.nearest(0, 1, 1);
        c.is("lower() stays", x.lower(), 825);
    }

    private static void promise56Count() {
        HammerTowers x = new HammerTowers();
        x.pass(7);
        x.train();
        x.train();
        x.tower(1);
        x.tower(2);
        x.tower(3);
        for (int i = 0; i < 4; i++) {
            x.wheel(10);
        }
        for (int r = 0; r < 5; r++) {
            x.row(r, r);
        }
        x.hang(1, 0, false);
        x.hang(2, 1, true);
        for (int i = 0; i < 3; i++) {
            x.letOff(1, false);
            x.letOff(2, true);
            x.runOut(1, false);
            x.runOut(2, true);
        }
        c.is("count(0)", x.count(0), 7);
        c.is("count(1)", x.count(1), 2);
        c.is("count(2)", x.count(2), 3);
        c.is("count(3)", x.count(3), 4);
        c.is("count(4)", x.count(4), 5);
        c.is("count(5)", x.count(5), 6);
        x.tower(1);
        x.tower(2);
        x.tear(0);
        c.is("count(2) as before", x.count(2), 3);
        c.is("count(4), one torn", x.count(4), 4);
        c.is("count(5), ever", x.count(5), 6);
        c.refused(x, "count(6)", BAD, () -> x.count(6));
        c.refused(x, "count(-1)", BAD, () -> x.count(-1));
    }

    private static void promise57And58Findings() {
        HammerTowers x = new HammerTowers();
        c.is("finding() before any", x.finding(), 0);
        x.train();
        for (int round = 1; round <= 2; round++) {
            x.tear(0);
            c.is("finding() NOTHING", x.finding(), 1);
            x.row(1, 1);
            x.lay(1, 1, 1);
            c.is("finding() BEYOND", x.finding(), 2);
            x.mark(0, 1);
            c.is("finding() UNLIKE", x.finding(), 3);
            x.mean(0);
            c.is("finding() NOUGHT", x.finding(), 4);
            x.row(0, -1);
            c.is("finding() SIZE", x.finding(), 5);
            x.count(77);
            x.train();
            c.is("finding() stays", x.finding(), 5);
            for (int f = 1; f <= 5; f++) {
                c.is("findings(" + f + ")", x.findings(f), round);
            }
        }
        c.refused(x, "findings(0)", BAD, () -> x.findings(0));
        c.refused(x, "findings(6)", BAD, () -> x.findings(6));
        c.refused(x, "findings(-1)", BAD, () -> x.findings(-1));
    }

    private static long mixed(long h, long... all) {
        for (long v : all) {
            h = 31 * h + v;
        }
        return h;
    }

    private static void promise59Digest() {
        HammerTowers x = new HammerTowers();
        c.is("digest() of a new object", x.digest(),
            mixed(17, 0, -1, -1, -1, -1, -1, -1, -1, -1, -1, -1, -1, -1));
        x.train();
        Made.plate(x, 2, 3);
        Made.snail(x, 4);
        Made.barrel(x, new int[] {5, 6}, 255, 0, 128);
        x.put(3, 1);
        x.tower(2);
        x.hang(2, 3, true);
        x.gear(3, 7, 77);
        x.row(0, 0);
        Made.row(x, 7, -1, 127);
        long h = mixed(17, 0, 0, 0, NONE, 30, 1000, 0, NONE, 0);
        h = mixed(h, 1, 2, 0, 30, 1000, 0, NONE, 0, 2, 3);
        h = mixed(h, 2, 1, NONE, 30, 1000, 0, NONE, 0, 4);
        h = mixed(h, 3, 2, 1, 7, 77, 0, 2, 0, 5, 6, 255, 0, 128, 0);
        h = mixed(h, -1, -1, 0, 0, 20000, 1, NONE, 3, 0, 0, 0, 0, 0, 0, 0, 0, -1);
        h = mixed(h, 0, -1, -1, -1, -1, -1, -1, 2, -1, 127);
        c.is("digest()", x.digest(), h);
        c.is("digest() again", x.digest(), h);
    }

    private static void promise59DigestOfLog() {
        HammerTowers x = Made.withTower();
        Made.barrel(x, new int[] {2}, 3, 4, 128);
        x.hang(0, 0, true);
        x.pass(17);
        x.letOff(0, true);
        x.letOff(0, true);
        x.runOut(0, true);
        x.letOff(0, true);
        x.silence(0, 0, 5, 1);
        x.go(0, false);
        x.rate(0, 5);
        long h = mixed(17, 17, 3, 1, 0, 30, 994, 2, 0, 6, 2, 3, 4, 128, 0);
        h = mixed(h, 17, 0, 20000 - 17, 0, NONE, 0, 0, 0, 2, 2, 17, 0, 4, 135, -1, -1, -1);
        h = mixed(h, -1, -1, -1, -1, -1, -1, -1, -1);
        c.is("digest() with a LOG", x.digest(), h);
    }
}
