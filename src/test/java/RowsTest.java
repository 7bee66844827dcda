/** Promises 1 to 5: a new object, and ROWS. */
public final class RowsTest {
    private static final int BAD = HammerTowers.BAD;
    private static final Checks c = new Checks("RowsTest");

    public static void main(String[] args) {
        promise01New();
        promise02Row();
        promise03Lay();
        promise04Tear();
        promise05Copy();
        promise05CopyBeyond();
        c.end();
    }

    private static void promise01New() {
        HammerTowers x = new HammerTowers();
        for (int what = 0; what <= 5; what++) {
            c.is("count(" + what + ") of a new object", x.count(what), 0);
        }
        long h = 17;
        h = 31 * h;
        for (int i = 0; i < 4 + 8; i++) {
            h = 31 * h - 1;
        }
        c.is("digest() of a new object", x.digest(), h);
        c.is("finding() of a new object", x.finding(), 0);
        for (int r = 0; r < 8; r++) {
            c.is("tear(" + r + ") of a new object", x.tear(r), HammerTowers.FINDING);
        }
        for (int t = 0; t < 4; t++) {
            c.is("tells(" + t + ", 0) of a new object", x.tells(t, 0), HammerTowers.FINDING);
        }
        c.is("told(0, 0) of a new object", x.told(0, 0), BAD);
    }

    private static void promise02Row() {
        HammerTowers x = new HammerTowers();
        c.is("row(0, 48)", x.row(0, 48), 48);
        c.is("row(7, 0)", x.row(7, 0), 0);
        c.is("count(4)", x.count(4), 2);
        c.is("lay(0, 47, 5)", x.lay(0, 47, 5), 1000);
        c.is("row(0, 48) again", x.row(0, 48), 48);
        c.is("count(4) as before", x.count(4), 2);
        c.is("lay(0, 47, 0): the bytes are 0 anew", x.lay(0, 47, 0), 1000);
        x.lay(0, 5, 9);
        x.row(0, 3);
        x.row(0, 6);
        c.is("lay(0, 5, 0): nothing comes back from behind a shorter row", x.lay(0, 5, 0), 1000);
        c.refused(x, "row(-1, 1)", BAD, () -> x.row(-1, 1));
        c.refused(x, "row(8, 1)", BAD, () -> x.row(8, 1));
        c.refused(x, "row(1, 49)", BAD, () -> x.row(1, 49));
        c.refused(x, "row(8, -1): BAD before SIZE", BAD, () -> x.row(8, -1));
        c.finds(x, "row(0, -1)", Checks.SIZE, () -> x.row(0, -1));
        c.finds(x, "row(1, min)", Checks.SIZE, () -> x.row(1, Integer.MIN_VALUE));
        c.is("count(4) behind refusals", x.count(4), 2);
    }

    private static void promise03Lay() {
        HammerTowers x = new HammerTowers();
        x.row(2, 3);
        c.is("lay(2, 0, 127)", x.lay(2, 0, 127), 1000);
        c.is("lay(2, 0, 128)", x.lay(2, 0, 128), 1127);
        c.is("lay(2, 0, 300): 128 was cut to -128", x.lay(2, 0, 300), 872);
        c.is("lay(2, 0, -1): 300 was cut to 44", x.lay(2, 0, -1), 1044);
        c.is("lay(2, 0, 0): -1", x.lay(2, 0, 0), 999);
        c.is("lay(2, 2, 7): the others stay", x.lay(2, 2, 7), 1000);
        c.is("lay(2, 2, 0)", x.lay(2, 2, 0), 1007);
        c.refused(x, "lay(8, 0, 0)", BAD, () -> x.lay(8, 0, 0));
        c.refused(x, "lay(-1, 0, 0)", BAD, () -> x.lay(-1, 0, 0));
        c.finds(x, "lay(3, 99, 0): NOTHING before BEYOND", Checks.NOTHING, () -> x.lay(3, 99, 0));
        c.finds(x, "lay(2, 3, 9)", Checks.BEYOND, () -> x.lay(2, 3, 9));
        c.finds(x, "lay(2, -1, 9)", Checks.BEYOND, () -> x.lay(2, -1, 9));
        c.finds(x, "lay(2, max, 9)", Checks.BEYOND, () -> x.lay(2, Integer.MAX_VALUE, 9));
    }

    private static void promise04Tear() {
        HammerTowers x = new HammerTowers();
        x.row(0, 4);
        x.row(1, 0);
        c.is("tear(0)", x.tear(0), 1);
        c.is("tear(1), a row of no bytes", x.tear(1), 1);
        c.is("count(4)", x.count(4), 0);
        c.finds(x, "tear(0) again", Checks.NOTHING, () -> x.tear(0));
        c.finds(x, "lay(0, 0, 1) of a torn row", Checks.NOTHING, () -> x.lay(0, 0, 1));
        c.refused(x, "tear(8)", BAD, () -> x.tear(8));
        c.refused(x, "tear(-1)", BAD, () -> x.tear(-1));
    }

    private static void promise05Copy() {
        HammerTowers x = new HammerTowers();
        Made.row(x, 0, 1, 2, 3, 4, 5);
        Made.row(x, 1, 0, 0, 0);
        c.is("copy(0, 2, 1, 1, 2)", x.copy(0, 2, 1, 1, 2), 1);
        bytes("copied", x, 1, 0, 3, 4);
        bytes("its source stays", x, 0, 1, 2, 3, 4, 5);
        c.is("copy onto itself, forward", x.copy(0, 0, 0, 1, 4), 1);
        bytes("as if taken ahead", x, 0, 1, 1, 2, 3, 4);
        Made.row(x, 0, 1, 2, 3, 4, 5);
        c.is("copy onto itself, back", x.copy(0, 1, 0, 0, 4), 1);
        bytes("as if taken ahead", x, 0, 2, 3, 4, 5, 5);
        c.is("copy of none, at the ends", x.copy(0, 5, 1, 3, 0), 1);
        x.row(2, 0);
        c.is("copy of none, of an empty row", x.copy(2, 0, 2, 0, 0), 1);
        Made.row(x, 3, -7);
        x.copy(3, 0, 1, 0, 1);
        bytes("a byte below 0", x, 1, -7, 3, 4);
    }

    private static void promise05CopyBeyond() {
        HammerTowers x = new HammerTowers();
        Made.row(x, 0, 1, 2, 3);
        Made.row(x, 1, 4, 5);
        int max = Integer.MAX_VALUE;
        c.refused(x, "copy(8, ..)", BAD, () -> x.copy(8, 0, 0, 0, -1));
        c.refused(x, "copy(.., -1, ..)", BAD, () -> x.copy(0, 0, -1, 0, 1));
        c.finds(x, "copy of -1, of a missing row: SIZE first", Checks.SIZE, () -> x.copy(5, 0, 0, 0, -1));
        c.finds(x, "copy from a missing row: before BEYOND", Checks.NOTHING, () -> x.copy(5, 9, 0, 0, 1));
        c.finds(x, "copy to a missing row", Checks.NOTHING, () -> x.copy(0, 0, 5, 0, 1));
        c.finds(x, "copy: not so many in the first", Checks.BEYOND, () -> x.copy(1, 1, 0, 0, 2));
        c.finds(x, "copy: not so many in the second", Checks.BEYOND, () -> x.copy(0, 0, 1, 0, 3));
        c.finds(x, "copy from before the first", Checks.BEYOND, () -> x.copy(0, -1, 1, 0, 1));
        c.finds(x, "copy to before the first", Checks.BEYOND, () -> x.copy(0, 0, 1, -1, 1));
        c.finds(x, "copy of none from behind the end", Checks.BEYOND, () -> x.copy(0, 4, 1, 0, 0));
        c.finds(x, "copy of all that there can be", Checks.BEYOND, () -> x.copy(0, max, 1, max, max));
        c.finds(x, "copy from the last number on", Checks.BEYOND, () -> x.copy(0, max, 1, 0, 2));
    }

    private static void bytes(String what, HammerTowers x, int r, int... want) {
        for (int i = 0; i < want.length; i++) {
            c.is(what + ": byte " + i, x.lay(r, i, want[i]), want[i] + 1000);
        }
    }
}
