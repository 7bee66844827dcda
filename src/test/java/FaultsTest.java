import java.util.Random;

/** Promises 41 to 46: HEARD ROWS, FAULTS and WIND. */
public final class FaultsTest {
    private static final int BAD = HammerTowers.BAD, NONE = HammerTowers.NONE;
    private static final Checks c = new Checks("FaultsTest");

    public static void main(String[] args) {
        promise41Due();
        promise41DueRefused();
        promise42Misfits();
        promise42MisfitsRefused();
        promise43Fault();
        promise43FaultByTrial();
        promise43And45Refused();
        promise44FaultTold();
        promise45Explained();
        promise46Windy();
        promise46WindyRefused();
        c.end();
    }

    private static void promise41Due() {
        HammerTowers x = new HammerTowers();
        for (int i = 0; i < 48; i++) {
            int h = (8 + i) % 12 + 1;
            String place = " at place " + i;
            c.is("none" + place, x.due(9, i, 0, 99, -99), h);
            c.is("OUT by 5 from 6" + place, x.due(9, i, 1, 5, 6), i < 6 ? h : (h + 4) % 12 + 1);
            c.is("one NOTCH" + place, x.due(9, i, 2, 12, 0), h == 12 ? 0 : h);
            c.is("LOST" + place, x.due(9, i, 3, 3, -7), h < 3 ? 0 : h - 3);
            c.is("DEAF" + place, x.due(9, i, 4, 3, 5), i >= 3 && i <= 5 ? 0 : h);
        }
        c.is("OUT: 12 is round", x.due(12, 0, 1, 11, 0), 11);
        c.is("OUT: 1 and 11 is 12", x.due(1, 0, 1, 11, 0), 12);
        c.is("one NOTCH always 24", x.due(7, 0, 2, 7, 24), 24);
    }

    private static void promise41DueRefused() {
        int[][] bad = {
            {0, 0, 0, 0, 0}, {13, 0, 0, 0, 0}, {1, -1, 0, 0, 0}, {1, 48, 0, 0, 0}, {1, 0, -1, 0, 0}, {1, 0, 5, 0, 0},
            {1, 0, 1, 0, 0}, {1, 0, 1, 12, 0}, {1, 0, 1, 1, -1}, {1, 0, 1, 1, 48},
            {1, 0, 2, 0, 0}, {1, 0, 2, 13, 0}, {1, 0, 2, 1, -1}, {1, 0, 2, 1, 25},
            {1, 0, 3, 0, 0}, {1, 0, 3, 12, 0},
            {1, 0, 4, -1, 0}, {1, 0, 4, 0, 48}, {1, 0, 4, 2, 1}, {1, 0, 4, 48, 48}};
        for (int[] b : bad) {
            HammerTowers x = new HammerTowers();
            c.refused(x, "due(" + java.util.Arrays.toString(b) + ")", BAD, () -> x.due(b[0], b[1], b[2], b[3], b[4]));
        }
        int[][] good = {
            {1, 0, 1, 1, 0, 2}, {1, 0, 1, 11, 47, 1}, {1, 0, 2, 1, 0, 0}, {1, 47, 2, 12, 24, 24}, {1, 0, 3, 1, 0, 0},
            {12, 0, 3, 11, 99, 1}, {1, 0, 4, 0, 0, 0}, {1, 47, 4, 47, 47, 0}, {1, 47, 0, -1, -1, 12}};
        HammerTowers x = new HammerTowers();
        for (int[] g : good) {
            c.is("due(" + java.util.Arrays.toString(g) + ")", x.due(g[0], g[1], g[2], g[3], g[4]), g[5]);
        }
    }

    private static void promise42Misfits() {
        HammerTowers x = new HammerTowers();
        Made.row(x, 0, 11, -1, 1, 0, -128, 25, 127);
        c.is("misfits by none", x.misfits(0, 11, 0, 9, 9), 3);
        c.is("misfits by DEAF at 3", x.misfits(0, 11, 4, 3, 3), 2);
        c.is("misfits by DEAF at all", x.misfits(0, 11, 4, 0, 47), 4);
        c.is("misfits by OUT from behind the row", x.misfits(0, 11, 1, 1, 47), 3);
        c.is("misfits by OUT", x.misfits(0, 11, 1, 1, 0), 5);
        c.is("misfits by LOST", x.misfits(0, 11, 3, 2, 77), 4);
        c.is("misfits by one NOTCH", x.misfits(0, 11, 2, 2, 0), 2);
        x.row(1, 0);
        c.is("misfits of an empty row", x.misfits(1, 1, 3, 5, 0), 0);
        x.row(2, 48);
        c.is("misfits of a row of nothing", x.misfits(2, 1, 0, 0, 0), 48);
    }

    private static void promise42MisfitsRefused() {
        HammerTowers x = new HammerTowers();
        x.row(0, 3);
        c.refused(x, "misfits(8, ..)", BAD, () -> x.misfits(8, 1, 0, 0, 0));
        c.refused(x, "misfits(-1, ..)", BAD, () -> x.misfits(-1, 1, 0, 0, 0));
        c.refused(x, "misfits(): hour 0", BAD, () -> x.misfits(0, 0, 0, 0, 0));
        c.refused(x, "misfits(): hour 13", BAD, () -> x.misfits(0, 13, 0, 0, 0));
        c.refused(x, "misfits(): sort 5", BAD, () -> x.misfits(0, 1, 5, 0, 0));
        c.refused(x, "misfits(): sort -1", BAD, () -> x.misfits(0, 1, -1, 0, 0));
        c.refused(x, "misfits(): s 48", BAD, () -> x.misfits(0, 1, 1, 1, 48));
        c.refused(x, "misfits(): e 48", BAD, () -> x.misfits(0, 1, 4, 1, 48));
        c.refused(x, "misfits(1, ..), missing: BAD before", BAD, () -> x.misfits(1, 1, 3, 0, 0));
        c.finds(x, "misfits(1, ..), missing", Checks.NOTHING, () -> x.misfits(1, 1, 0, 0, 0));
    }

    private static void promise43Fault() {
        HammerTowers x = new HammerTowers();
        fault("as it should be", x, 10, 0, 0, NONE, NONE, 10, 11, 12, 1, 2);
        fault("nobody listened", x, 10, 0, 0, NONE, NONE, -1, -1, -1);
        fault("OUT by 3 from place 2", x, 10, 1, 0, 3, 2, 10, 11, 3, 4, 5);
        fault("OUT, the gap before it not heard: the least s", x, 10, 1, 0, 3, 1, 10, -1, 3, 4, 5);
        fault("one NOTCH", x, 1, 2, 0, 2, 9, 1, 9, 3, 4, 5, 6, 7, 8, 9, 10, 11, 12, 1, 9, 3);
        fault("LOST two", x, 1, 3, 0, 2, NONE, 0, 0, 1, 2, 3, 4, 5, 6, 7, 8, 9, 10, 0, 0, 1);
        fault("DEAF from 2 to 4", x, 1, 4, 0, 2, 4, 1, 2, 0, 0, 0, 6, 7);
        fault("alike with one: the least sort", x, 1, 1, 0, 7, 2, 1, 2, 10);
        fault("what fits most, not all", x, 1, 1, 1, 1, 1, 1, 3, 4, 5, 6, 7, 24, 9);
        fault("25 and more fits nothing", x, 1, 0, 1, NONE, NONE, 25);
        int[] far = new int[48];
        java.util.Arrays.fill(far, 25);
        fault("as many misfits as there can be", x, 1, 0, 48, NONE, NONE, far);
    }

    private static void fault(String what, HammerTowers x, int hour, int sort, int misfits, int a, int b, int... row) {
        Made.row(x, 0, row);
        c.is("fault(): " + what, x.fault(0, hour), sort);
        c.is("asked(): " + what, x.asked(), misfits);
        c.is("faultTold(false): " + what, x.faultTold(false), a);
        c.is("faultTold(true): " + what, x.faultTold(true), b);
    }

    /** Rows made by a FAULT, with gaps and slips, against all FAULTS one by one. */
    private static void promise43FaultByTrial() {
        Random random = new Random(43);
        for (int run = 0; run < 300; run++) {
            HammerTowers x = new HammerTowers();
            int hour = 1 + random.nextInt(12);
            int[] row = heardRow(random, hour, run % 6);
            Made.row(x, 0, row);
            int[] best = {99, 0, 0, 0, 0};
            for (int sort = 0; sort <= 4; sort++) {
                for (int a = 0; a < 48; a++) {
                    for (int b = 0; b < 48; b++) {
                        if (isOne(sort, a, b)) {
                            offer(best, misfits(row, hour, sort, a, b), sort, a, b);
                        }
                    }
                }
            }
            c.is("fault() of run " + run, x.fault(0, hour), best[1]);
            c.is("asked() of run " + run, x.asked(), best[0]);
            c.is("faultTold(false) of run " + run, x.faultTold(false), best[1] == 0 ? NONE : best[2]);
            c.is("faultTold(true) of run " + run, x.faultTold(true), best[1] == 0 || best[1] == 3 ? NONE : best[3]);
            c.is("explained() of run " + run, x.explained(0, hour), best[4]);
            c.is("misfits() of run " + run, x.misfits(0, hour, best[1], best[2], best[3]), best[0]);
        }
    }

    private static int misfits(int[] row, int hour, int sort, int a, int b) {
        int n = 0;
        for (int i = 0; i < row.length; i++) {
            n += row[i] >= 0 && row[i] != due(hour, i, sort, a, b) ? 1 : 0;
        }
        return n;
    }

    private static int due(int hour, int i, int sort, int a, int b) {
        int h = hour;
        for (int k = 0; k < i; k++) {
            h = h == 12 ? 1 : h + 1;
        }
        if (sort == 1 && i >= b) {
            return h + a > 12 ? h + a - 12 : h + a;
        }
        if (sort == 2 && h == a) {
            return b;
        }
        if (sort == 3) {
            return h > a ? h - a : 0;
        }
        return sort == 4 && a <= i && i <= b ? 0 : h;
    }

    private static void offer(int[] best, int misfits, int sort, int a, int b) {
        best[4] += misfits == 0 ? 1 : 0;
        if (misfits < best[0]) {
            best[0] = misfits;
            best[1] = sort;
            best[2] = a;
            best[3] = b;
        }
    }

    private static boolean isOne(int sort, int a, int b) {
        switch (sort) {
            case 0: return a == 0 && b == 0;
            case 1: return a >= 1 && a <= 11;
            case 2: return a >= 1 && a <= 12 && b <= 24;
            case 3: return a >= 1 && a <= 11 && b == 0;
            default: return a <= b;
        }
    }

    private static int[] heardRow(Random random, int hour, int sort) {
        int[] row = new int[random.nextInt(49)];
        int a = 1 + random.nextInt(11);
        int b = sort == 4 ? a + random.nextInt(10) : random.nextInt(24);
        for (int i = 0; i < row.length; i++) {
            int heard = sort == 5 ? random.nextInt(26) - 1 : due(hour, i, sort, a, b);
            int slip = random.nextInt(12);
            row[i] = slip == 0 ? -1 : slip == 1 ? random.nextInt(25) : heard;
        }
        return row;
    }

    private static void promise43And45Refused() {
        HammerTowers x = new HammerTowers();
        Made.row(x, 0, 1, 2, 9);
        x.fault(0, 1);
        c.refused(x, "fault(8, 1)", BAD, () -> x.fault(8, 1));
        c.refused(x, "fault(-1, 1)", BAD, () -> x.fault(-1, 1));
        c.refused(x, "fault(0, 0)", BAD, () -> x.fault(0, 0));
        c.refused(x, "fault(1, 13): BAD before NOTHING", BAD, () -> x.fault(1, 13));
        c.finds(x, "fault(1, 1)", Checks.NOTHING, () -> x.fault(1, 1));
        c.refused(x, "explained(8, 1)", BAD, () -> x.explained(8, 1));
        c.refused(x, "explained(-1, 1)", BAD, () -> x.explained(-1, 1));
        c.refused(x, "explained(0, 0)", BAD, () -> x.explained(0, 0));
        c.refused(x, "explained(1, 13): BAD before NOTHING", BAD, () -> x.explained(1, 13));
        c.finds(x, "explained(1, 1)", Checks.NOTHING, () -> x.explained(1, 1));
    }

    private static void promise44FaultTold() {
        HammerTowers x = new HammerTowers();
        c.is("faultTold(false) before", x.faultTold(false), NONE);
        c.is("faultTold(true) before", x.faultTold(true), NONE);
        Made.row(x, 0, 1, 2, 0, 0, 5);
        Made.row(x, 1, 7, 8, 9);
        x.fault(0, 1);
        c.is("faultTold(false)", x.faultTold(false), 2);
        c.is("faultTold(true)", x.faultTold(true), 3);
        x.explained(1, 1);
        x.misfits(1, 1, 0, 0, 0);
        x.windy(1, 1, 0, 0, 0);
        x.fault(7, 1);
        x.fault(0, 0);
        c.is("faultTold(false): other calls, refused ones tell nothing", x.faultTold(false), 2);
        c.is("faultTold(true): other calls, refused ones tell nothing", x.faultTold(true), 3);
        x.fault(1, 1);
        c.is("faultTold(false) of the next", x.faultTold(false), 6);
        c.is("faultTold(true) of the next", x.faultTold(true), 0);
        x.fault(1, 7);
        c.is("faultTold(false) of none", x.faultTold(false), NONE);
        c.is("faultTold(true) of none", x.faultTold(true), NONE);
    }

    private static void promise45Explained() {
        HammerTowers x = new HammerTowers();
        x.row(0, 0);
        c.is("explained() of an empty row: all FAULTS", x.explained(0, 1), 1 + 11 * 48 + 12 * 25 + 11 + 48 * 49 / 2);
        Made.row(x, 0, 1);
        c.is("explained() of one place", x.explained(0, 1), 1 + 11 * 47 + 11 * 25 + 1 + 47 * 48 / 2);
        Made.row(x, 0, 0);
        c.is("explained() of one place with nothing", x.explained(0, 1), 1 + 11 + 48);
        Made.row(x, 0, 99);
        c.is("explained() of what no FAULT tells", x.explained(0, 1), 0);
        c.is("asked() is not told by it", x.asked(), 0);
    }

    private static void promise46Windy() {
        HammerTowers x = new HammerTowers();
        Made.row(x, 0, 1, 0, 3, 5, 2, 7);
        c.is("windy(): more at place 3", x.windy(0, 1, 0, 77, 77), 0);
        c.is("asked(): the first", x.asked(), 3);
        c.is("windy() from hour 3", x.windy(0, 3, 0, 0, 0), 1);
        c.is("asked() is told by what answers 0 alone", x.asked(), 3);
        c.is("windy() by OUT from 3", x.windy(0, 1, 1, 1, 3), 1);
        c.is("windy() by OUT from 4", x.windy(0, 1, 1, 1, 4), 0);
        c.is("windy() by LOST", x.windy(0, 1, 3, 1, 0), 0);
        c.is("asked()", x.asked(), 0);
        c.is("windy() by DEAF", x.windy(0, 1, 4, 2, 5), 0);
        c.is("asked()", x.asked(), 2);
        Made.row(x, 1, -1, -128, 3);
        c.is("windy(): where nobody listened", x.windy(1, 1, 4, 0, 1), 1);
        x.row(2, 0);
        c.is("windy() of an empty row", x.windy(2, 1, 3, 11, 0), 1);
        Made.row(x, 3, 12, 13);
        c.is("windy(): one NOTCH", x.windy(3, 12, 2, 1, 13), 1);
        c.is("windy(): one NOTCH less", x.windy(3, 12, 2, 1, 12), 0);
        c.is("asked()", x.asked(), 1);
    }

    private static void promise46WindyRefused() {
        HammerTowers x = new HammerTowers();
        Made.row(x, 0, 1, 5);
        x.windy(0, 1, 0, 0, 0);
        c.refused(x, "windy(8, ..)", BAD, () -> x.windy(8, 1, 0, 0, 0));
        c.refused(x, "windy(-1, ..)", BAD, () -> x.windy(-1, 1, 0, 0, 0));
        c.refused(x, "windy(): hour 0", BAD, () -> x.windy(0, 0, 0, 0, 0));
        c.refused(x, "windy(): hour 13", BAD, () -> x.windy(0, 13, 0, 0, 0));
        c.refused(x, "windy(): sort 5", BAD, () -> x.windy(0, 1, 5, 0, 0));
        c.refused(x, "windy(1, ..), missing: BAD before", BAD, () -> x.windy(1, 1, 2, 0, 0));
        c.finds(x, "windy(1, ..), missing", Checks.NOTHING, () -> x.windy(1, 1, 0, 0, 0));
    }
}
