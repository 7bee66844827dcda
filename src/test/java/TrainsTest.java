/** Promises 6 to 18: TRAINS of each KIND. */
public final class TrainsTest {
    private static final int BAD = HammerTowers.BAD, FULL = HammerTowers.FULL, NONE = HammerTowers.NONE;
    private static final Checks c = new Checks("TrainsTest");

    public static void main(String[] args) {
        promise06Train();
        promise07Plate();
        promise08Snail();
        promise09Barrel();
        promise10Gear();
        promise11Wind();
        promise12Broken();
        promise12BrokenOfOthers();
        promise13Told();
        promise14Mark();
        promise15Notch();
        promise16Cut();
        promise17Put();
        promise18Mean();
        c.end();
    }

    private static long[] told(HammerTowers x, int train) {
        long[] all = new long[8];
        for (int what = 0; what < 8; what++) {
            all[what] = x.told(train, what);
        }
        return all;
    }

    private static void promise06Train() {
        HammerTowers x = new HammerTowers();
        for (int i = 0; i < 16; i++) {
            c.is("train()", x.train(), i);
        }
        c.refused(x, "train(), the 17th", FULL, x::train);
        c.is("count(1)", x.count(1), 16);
        c.all("told() of a TRAIN", told(x, 0), 0, 0, NONE, 30, 1000, 0, NONE, 0);
        Made.row(x, 0, 1);
        c.refused(x, "plate(0), full", FULL, () -> x.plate(0));
        c.refused(x, "snail(0), full", FULL, () -> x.snail(0));
        c.refused(x, "barrel(0, 0), full", FULL, () -> x.barrel(0, 0));
        c.refused(x, "plate(5), full: before NOTHING", FULL, () -> x.plate(5));
        c.refused(x, "snail(5), full: before NOTHING", FULL, () -> x.snail(5));
        c.refused(x, "barrel(0, 5), full: before NOTHING", FULL, () -> x.barrel(0, 5));
        c.refused(x, "plate(8), full: BAD before", BAD, () -> x.plate(8));
        c.refused(x, "snail(-1), full: BAD before", BAD, () -> x.snail(-1));
        c.refused(x, "barrel(0, 8), full: BAD before", BAD, () -> x.barrel(0, 8));
    }

    private static void promise07Plate() {
        HammerTowers x = new HammerTowers();
        Made.row(x, 0, 24, 1, 5);
        c.is("plate(0)", x.plate(0), 0);
        c.all("told() of a PLATE", told(x, 0), 1, 3, 0, 30, 1000, 0, NONE, 0);
        x.lay(0, 0, 7);
        c.is("notch(0, 0): its own, not the row's", x.notch(0, 0), 24);
        int[] most = new int[24];
        java.util.Arrays.fill(most, 3);
        Made.row(x, 1, most);
        c.is("plate(1) of 24", x.plate(1), 1);
        c.is("told(1, 1)", x.told(1, 1), 24);
        c.refused(x, "plate(8)", BAD, () -> x.plate(8));
        c.refused(x, "plate(-1)", BAD, () -> x.plate(-1));
        c.finds(x, "plate(2), missing", Checks.NOTHING, () -> x.plate(2));
        sizes(x, "plate(3)", () -> x.plate(3));
        c.is("count(1)", x.count(1), 2);
    }

    private static void promise08Snail() {
        HammerTowers x = new HammerTowers();
        Made.row(x, 0, 24, 1, 5, 2);
        c.is("snail(0)", x.snail(0), 0);
        c.all("told() of a SNAIL", told(x, 0), 2, 4, NONE, 30, 1000, 0, NONE, 0);
        c.is("snail(0) again", x.snail(0), 1);
        c.refused(x, "snail(8)", BAD, () -> x.snail(8));
        c.finds(x, "snail(2), missing", Checks.NOTHING, () -> x.snail(2));
        sizes(x, "snail(3)", () -> x.snail(3));
    }

    /** ROW 3 as what is no NOTCHES: none, too many, or strokes that there can't be. */
    private static void sizes(HammerTowers x, String call, java.util.function.IntSupplier asks) {
        x.row(3, 0);
        c.finds(x, call + " of no bytes", Checks.SIZE, asks);
        int[] many = new int[25];
        java.util.Arrays.fill(many, 1);
        Made.row(x, 3, many);
        c.finds(x, call + " of 25", Checks.SIZE, asks);
        Made.row(x, 3, 1, 2, 0);
        c.finds(x, call + " with 0", Checks.SIZE, asks);
        Made.row(x, 3, 25, 2, 1);
        c.finds(x, call + " with 25", Checks.SIZE, asks);
        Made.row(x, 3, 1, -1, 1);
        c.finds(x, call + " with -1", Checks.SIZE, asks);
        x.tear(3);
    }

    private static void promise09Barrel() {
        HammerTowers x = new HammerTowers();
        Made.row(x, 0, 2, 3);
        Made.row(x, 1, 255, 0, 128);
        c.is("barrel(0, 1)", x.barrel(0, 1), 0);
        c.all("told() of a BARREL", told(x, 0), 3, 2, 0, 30, 1000, 0, NONE, 0);
        x.row(2, 48);
        c.is("barrel(0, 2) with 48 PINS", x.barrel(0, 2), 1);
        c.is("barrel(0, 0): one row for both", x.barrel(0, 0), 2);
        c.refused(x, "barrel(8, 0)", BAD, () -> x.barrel(8, 0));
        c.refused(x, "barrel(0, -1)", BAD, () -> x.barrel(0, -1));
        c.finds(x, "barrel(4, 1): NOTCHES missing", Checks.NOTHING, () -> x.barrel(4, 1));
        c.finds(x, "barrel(0, 4): PINS missing", Checks.NOTHING, () -> x.barrel(0, 4));
        sizes(x, "barrel(3, 1)", () -> x.barrel(3, 1));
        x.row(3, 0);
        c.finds(x, "barrel(0, 3): no PINS", Checks.SIZE, () -> x.barrel(0, 3));
        c.finds(x, "barrel(3, 4): NOTHING before SIZE", Checks.NOTHING, () -> x.barrel(3, 4));
    }

    private static void promise10Gear() {
        HammerTowers x = Made.withTower();
        x.train();
        c.is("gear(0, 1, 0)", x.gear(0, 1, 0), 1000);
        c.is("told(0, 3)", x.told(0, 3), 1);
        c.is("told(0, 4)", x.told(0, 4), 0);
        c.is("gear(0, 60, 100000)", x.gear(0, 60, 100000), 0);
        c.is("told(0, 3)", x.told(0, 3), 60);
        c.is("told(0, 4): it is WOUND", x.told(0, 4), 100000);
        x.gear(0, 5, 10);
        x.hang(0, 0, false);
        x.letOff(0, false);
        x.runOut(0, false);
        c.is("gear(0, 5, 7): its WEIGHT, not its FALL", x.gear(0, 5, 7), 9);
        c.is("wind(0): by the new FALL", x.wind(0), 0);
        c.refused(x, "gear(1, 1, 1)", BAD, () -> x.gear(1, 1, 1));
        c.refused(x, "gear(-1, 1, 1)", BAD, () -> x.gear(-1, 1, 1));
        c.refused(x, "gear(0, 0, 1)", BAD, () -> x.gear(0, 0, 1));
        c.refused(x, "gear(0, 61, 1)", BAD, () -> x.gear(0, 61, 1));
        c.refused(x, "gear(0, 1, -1)", BAD, () -> x.gear(0, 1, -1));
        c.refused(x, "gear(0, 1, 100001)", BAD, () -> x.gear(0, 1, 100001));
    }

    private static void promise11Wind() {
        HammerTowers x = Made.withTower();
        Made.snail(x, 5);
        c.is("wind(0), wound", x.wind(0), 0);
        x.hang(0, 0, false);
        x.letOff(0, false);
        x.runOut(0, false);
        c.is("told(0, 4)", x.told(0, 4), 995);
        c.is("wind(0)", x.wind(0), 5);
        c.is("told(0, 4), wound", x.told(0, 4), 1000);
        c.refused(x, "wind(1)", BAD, () -> x.wind(1));
        c.refused(x, "wind(-1)", BAD, () -> x.wind(-1));
    }

    private static void promise12Broken() {
        HammerTowers x = Made.withTower();
        Made.barrel(x, new int[] {4}, 3, 4, 0, 8);
        x.hang(0, 0, false);
        c.is("broken(0, 5)", x.broken(0, 5), 0);
        x.letOff(0, false);
        c.is("runOut: broken hammers strike, too", x.runOut(0, false), 4);
        c.all("LOG: of 3 one is not broken, 4 is, 0 has none", Made.entry(x, 0, 0), 0, 0, 2, 2 | 8);
        c.is("broken(0, 255)", x.broken(0, 255), 5);
        x.letOff(0, false);
        c.is("runOut, all broken", x.runOut(0, false), 4);
        c.is("nothing more in the LOG", Made.entries(x, 0), 1);
        c.is("broken(0, 0)", x.broken(0, 0), 255);
        c.refused(x, "broken(0, 256)", BAD, () -> x.broken(0, 256));
        c.refused(x, "broken(0, -1)", BAD, () -> x.broken(0, -1));
        c.refused(x, "broken(1, 0)", BAD, () -> x.broken(1, 0));
    }

    private static void promise12BrokenOfOthers() {
        HammerTowers x = Made.withTower();
        x.train();
        x.hang(0, 0, false);
        x.broken(0, 254);
        x.letOff(0, false);
        x.runOut(0, false);
        c.all("LOG: hammer 0 is not broken", Made.entry(x, 0, 0), 0, 0, 1, 1);
        c.is("broken(0, 1)", x.broken(0, 1), 254);
        x.letOff(0, false);
        c.is("runOut", x.runOut(0, false), 1);
        c.is("not heard", Made.entries(x, 0), 1);
    }

    private static void promise13Told() {
        HammerTowers x = new HammerTowers();
        x.tower(3);
        Made.plate(x, 2, 3, 4);
        x.hang(3, 0, true);
        x.gear(0, 12, 100);
        x.letOff(3, true);
        c.all("told() behind letOff()", told(x, 0), 1, 3, 1, 12, 100, 2, 3, 0);
        x.runOut(3, true);
        x.letOff(3, true);
        c.all("told() behind runOut()", told(x, 0), 1, 3, 2, 12, 98, 3, 3, 2);
        x.unhang(3, true);
        c.all("told() of a TRAIN that is free", told(x, 0), 1, 3, 2, 12, 98, 3, NONE, 2);
        c.refused(x, "told(0, 8)", BAD, () -> x.told(0, 8));
        c.refused(x, "told(0, -1)", BAD, () -> x.told(0, -1));
        c.refused(x, "told(1, 0)", BAD, () -> x.told(1, 0));
        c.refused(x, "told(-1, 0)", BAD, () -> x.told(-1, 0));
    }

    private static void promise14Mark() {
        HammerTowers x = Made.withTower();
        x.train();
        Made.plate(x, 2, 9, 4);
        Made.snail(x, 2, 9, 4);
        Made.barrel(x, new int[] {2, 1}, 1, 2, 4);
        c.is("mark(1, 1)", x.mark(1, 1), 15);
        c.is("mark(2, 2)", x.mark(2, 2), 9);
        x.cut(2, 0, 10);
        c.is("mark(2, 2), the first", x.mark(2, 2), 10);
        x.cut(2, 2, 11);
        c.is("mark(2, 2), the last", x.mark(2, 2), 11);
        c.is("mark(3, 1): a BARREL is a PLATE", x.mark(3, 1), 3);
        c.is("mark(3, 3)", x.mark(3, 3), 0);
        x.hang(0, 3, false);
        x.letOff(0, false);
        x.runOut(0, false);
        c.is("mark(3, 3) behind two strokes", x.mark(3, 3), 2);
        x.letOff(0, false);
        x.runOut(0, false);
        c.is("mark(3, 3), round", x.mark(3, 3), 0);
        int[][] unlike = {{0, 1}, {0, 2}, {0, 3}, {1, 2}, {1, 3}, {2, 1}, {2, 3}, {3, 2}};
        for (int[] pair : unlike) {
            c.finds(x, "mark(" + pair[0] + ", " + pair[1] + ")", Checks.UNLIKE, () -> x.mark(pair[0], pair[1]));
        }
        c.refused(x, "mark(1, 0)", BAD, () -> x.mark(1, 0));
        c.refused(x, "mark(0, 0)", BAD, () -> x.mark(0, 0));
        c.refused(x, "mark(1, 4)", BAD, () -> x.mark(1, 4));
        c.refused(x, "mark(1, -1)", BAD, () -> x.mark(1, -1));
        c.refused(x, "mark(4, 1)", BAD, () -> x.mark(4, 1));
    }

    private static void promise15Notch() {
        HammerTowers x = new HammerTowers();
        x.train();
        Made.plate(x, 2, 9, 4);
        Made.snail(x, 3, 8);
        Made.barrel(x, new int[] {7}, 1);
        c.is("notch(1, 0)", x.notch(1, 0), 2);
        c.is("notch(1, 2)", x.notch(1, 2), 4);
        c.is("notch(2, 1)", x.notch(2, 1), 8);
        c.is("notch(3, 0)", x.notch(3, 0), 7);
        c.refused(x, "notch(4, 0)", BAD, () -> x.notch(4, 0));
        c.finds(x, "notch(0, 0)", Checks.UNLIKE, () -> x.notch(0, 0));
        c.finds(x, "notch(1, 3)", Checks.BEYOND, () -> x.notch(1, 3));
        c.finds(x, "notch(2, -1)", Checks.BEYOND, () -> x.notch(2, -1));
        c.finds(x, "notch(3, 1)", Checks.BEYOND, () -> x.notch(3, 1));
    }

    private static void promise16Cut() {
        HammerTowers x = Made.withTower();
        x.train();
        Made.plate(x, 2, 9, 4);
        Made.snail(x, 3, 8);
        c.is("cut(1, 1, 24)", x.cut(1, 1, 24), 9);
        c.is("notch(1, 1)", x.notch(1, 1), 24);
        c.is("cut(2, 0, 1)", x.cut(2, 0, 1), 3);
        c.is("mark(2, 2)", x.mark(2, 2), 8);
        x.put(1, 1);
        x.hang(0, 1, false);
        c.is("letOff() by what was cut", x.letOff(0, false), 24);
        x.cut(1, 1, 2);
        c.is("what is DUE stays", x.told(1, 5), 24);
        c.refused(x, "cut(1, 0, 0)", BAD, () -> x.cut(1, 0, 0));
        c.refused(x, "cut(0, 0, 25): BAD before UNLIKE", BAD, () -> x.cut(0, 0, 25));
        c.refused(x, "cut(3, 0, 1)", BAD, () -> x.cut(3, 0, 1));
        c.finds(x, "cut(0, 0, 1)", Checks.UNLIKE, () -> x.cut(0, 0, 1));
        c.finds(x, "cut(1, 3, 1)", Checks.BEYOND, () -> x.cut(1, 3, 1));
        c.finds(x, "cut(1, -1, 1)", Checks.BEYOND, () -> x.cut(1, -1, 1));
    }

    private static void promise17Put() {
        HammerTowers x = new HammerTowers();
        x.train();
        Made.plate(x, 2, 9, 4);
        Made.snail(x, 3, 8);
        Made.barrel(x, new int[] {7, 8}, 1);
        c.is("put(1, 2)", x.put(1, 2), 0);
        c.is("put(1, 0)", x.put(1, 0), 2);
        c.is("put(3, 1)", x.put(3, 1), 0);
        c.is("told(3, 2)", x.told(3, 2), 1);
        c.refused(x, "put(4, 0)", BAD, () -> x.put(4, 0));
        c.finds(x, "put(0, 0)", Checks.UNLIKE, () -> x.put(0, 0));
        c.finds(x, "put(2, 99): UNLIKE before BEYOND", Checks.UNLIKE, () -> x.put(2, 99));
        c.finds(x, "put(1, 3)", Checks.BEYOND, () -> x.put(1, 3));
        c.finds(x, "put(3, -1)", Checks.BEYOND, () -> x.put(3, -1));
    }

    private static void promise18Mean() {
        HammerTowers x = new HammerTowers();
        x.train();
        Made.plate(x, 2, 9, 4);
        Made.snail(x, 3, 8);
        Made.barrel(x, new int[] {1, 1, 1, 24}, 1);
        c.is("mean(1)", x.mean(1), 5);
        c.is("mean(2), cut", x.mean(2), 5);
        c.is("mean(3), cut", x.mean(3), 6);
        c.finds(x, "mean(0)", Checks.NOUGHT, () -> x.mean(0));
        c.refused(x, "mean(4)", BAD, () -> x.mean(4));
        c.refused(x, "mean(-1)", BAD, () -> x.mean(-1));
    }
}
