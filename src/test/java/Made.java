/** Rows and trains that many tests begin with. */
final class Made {
    static final int[] HOURS = {1, 2, 3, 4, 5, 6, 7, 8, 9, 10, 11, 12};
    static final int[] QUARTERS = {1, 2, 3, 4};

    private Made() {
    }

    static void row(HammerTowers x, int r, int... bytes) {
        x.row(r, bytes.length);
        for (int i = 0; i < bytes.length; i++) {
            x.lay(r, i, bytes[i]);
        }
    }

    static int plate(HammerTowers x, int... strokes) {
        row(x, 7, strokes);
        int train = x.plate(7);
        x.tear(7);
        return train;
    }

    static int snail(HammerTowers x, int... strokes) {
        row(x, 7, strokes);
        int train = x.snail(7);
        x.tear(7);
        return train;
    }

    static int barrel(HammerTowers x, int[] strokes, int... pins) {
        row(x, 7, strokes);
        row(x, 6, pins);
        int train = x.barrel(7, 6);
        x.tear(7);
        x.tear(6);
        return train;
    }

    /** An object with one TOWER, 0. */
    static HammerTowers withTower() {
        HammerTowers x = new HammerTowers();
        x.tower(0);
        return x;
    }

    /** All of an entry of a LOG: NOW, TRAIN, strokes, hammers. */
    static long[] entry(HammerTowers x, int t, int i) {
        return new long[] {x.log(t, i, 0), x.log(t, i, 1), x.log(t, i, 2), x.log(t, i, 3)};
    }

    static int entries(HammerTowers x, int t) {
        int n = 0;
        while (n < 100 && x.log(t, n, 0) != HammerTowers.NONE) {
            n++;
        }
        return n;
    }
}
