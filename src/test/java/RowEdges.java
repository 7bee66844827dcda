/** Boundaries of promises 1 to 5: a new object, and ROWS. */
final class RowEdges {
    private RowEdges() {
    }

    static void all(Edges e) {
        newObject(e);
        row(e);
        lay(e);
        layCut(e);
        tear(e);
        copy(e);
        copyRefused(e);
    }

    private static void newObject(Edges e) {
        e.promise(1, "No ROWS, TRAINS, TOWERS, WHEELS; NOW 0.", """
            count(?) = 0 0 0 0 0 0
            told(0, 0) = BAD
            nearest(1, 1, 1) = NOUGHT
            act(0) = NONE
            chosen(0) = NONE
            faultTold(false) = NONE
            faultTold(true) = NONE
            """);
        e.promise(1, "ROWS 0 .. 7 are rows of 0 to 48 bytes, or missing (at first).", """
            tear(-1) = BAD
            tear(?) = NOTHING NOTHING NOTHING NOTHING NOTHING NOTHING NOTHING NOTHING BAD
            """);
        e.promise(1, "TOWERS 0 .. 3 (missing at first)", """
            lasting(-1) = BAD
            lasting(?) = NOTHING NOTHING NOTHING NOTHING BAD
            """);
    }

    private static void row(Edges e) {
        e.promise(2, "ROWS 0 .. 7 are rows of 0 to 48 bytes", """
            row(min, 5) = BAD
            row(-1, 5) = BAD
            row(?, 5) = 5 5 5 5 5 5 5 5 BAD BAD
            row(max, 5) = BAD
            count(4) = 8
            """);
        e.promise(2, "BAD: also n above 48", """
            row(0, 47) = 47
            lay(0, 46, 1) = 1000
            lay(0, 47, 1) = BEYOND
            row(0, 48) = 48
            lay(0, 47, 9) = 1000
            lay(0, 48, 9) = BEYOND
            row(0, 49) = BAD
            row(0, 50) = BAD
            row(0, max) = BAD
            lay(0, 47, 9) = 1009
            row(1, 49) = BAD
            count(4) = 1
            """);
        e.promise(2, "SIZE (fewer than none, or none where some are due)", """
            bytes(0, 7, 8)
            row(0, -1) = SIZE
            row(0, -2) = SIZE
            row(0, min) = SIZE
            lay(0, ?, 5) = 1007 1008 BEYOND
            row(0, 1) = 1
            row(0, 0) = 0
            lay(0, 0, 5) = BEYOND
            row(1, -1) = SIZE
            count(4) = 1
            """);
        e.promise(2, "the first of these that fits, in this order: BAD -1", """
            row(-1, -1) = BAD
            row(8, -1) = BAD
            row(8, 49) = BAD
            finding() = 0
            """);
        e.promise(2, "A ROW is there with n bytes 0: n.", """
            bytes(0, 1, 2, 3)
            row(0, 2) = 2
            row(0, 4) = 4
            lay(0, ?, 5) = 1000 1000 1000 1000 BEYOND
            row(0, 4) = 4
            lay(0, ?, 5) = 1000 1000 1000 1000 BEYOND
            """);
    }

    private static void lay(Edges e) {
        e.promise(3, "BEYOND (a place that there is not)", """
            row(0, 3)
            lay(0, min, 9) = BEYOND
            lay(0, -1, 9) = BEYOND
            lay(0, 0, 1) = 1000
            lay(0, 2, 2) = 1000
            lay(0, 3, 9) = BEYOND
            lay(0, max, 9) = BEYOND
            lay(0, ?, 0) = 1001 1000 1002
            row(1, 0)
            lay(1, -1, 9) = BEYOND
            lay(1, 0, 9) = BEYOND
            row(2, 48)
            lay(2, 47, 9) = 1000
            lay(2, 48, 9) = BEYOND
            """);
        e.promise(3, "BAD; NOTHING; BEYOND.", """
            row(0, 1)
            row(7, 1)
            lay(-1, 0, 1) = BAD
            lay(0, 0, 1) = 1000
            lay(7, 0, 1) = 1000
            lay(8, 0, 1) = BAD
            lay(-1, -1, 1) = BAD
            lay(8, 99, 1) = BAD
            lay(1, 0, 1) = NOTHING
            lay(1, 1, 1) = NOTHING
            lay(6, -1, 1) = NOTHING
            lay(0, 1, 1) = BEYOND
            tear(0)
            lay(0, 0, 1) = NOTHING
            """);
    }

    private static void layCut(Edges e) {
        e.promise(3, "Byte i of a ROW is v, cut to a byte: what it was, and 1000 more.", """
            row(0, 1)
            lay(0, 0, -128) = 1000
            lay(0, 0, -129) = 872
            lay(0, 0, -1) = 1127
            lay(0, 0, 0) = 999
            lay(0, 0, 1) = 1000
            lay(0, 0, 126) = 1001
            lay(0, 0, 127) = 1126
            lay(0, 0, 128) = 1127
            lay(0, 0, 129) = 872
            lay(0, 0, 255) = 873
            lay(0, 0, 256) = 999
            lay(0, 0, 257) = 1000
            lay(0, 0, max) = 1001
            lay(0, 0, min) = 999
            lay(0, 0, 0) = 1000
            """);
    }

    private static void tear(Edges e) {
        e.promise(4, "A ROW is missing: 1. BAD; NOTHING.", """
            row(0, 48)
            row(7, 0)
            tear(min) = BAD
            tear(-1) = BAD
            tear(8) = BAD
            tear(max) = BAD
            tear(1) = NOTHING
            tear(0) = 1
            tear(0) = NOTHING
            tear(7) = 1
            tear(7) = NOTHING
            count(4) = 0
            bytes(0, 5)
            tear(0) = 1
            row(0, 1) = 1
            lay(0, 0, 0) = 1000
            """);
    }

    private static void copy(Edges e) {
        e.promise(5, "n bytes of a ROW, from one on, come to those of another one", """
            bytes(0, 1, 2, 3, 4, 5)
            bytes(7, 11, 12, 13)
            copy(0, 0, 7, 0, 3) = 1
            lay(7, ?, 0) = 1001 1002 1003
            copy(0, 4, 7, 2, 1) = 1
            lay(7, ?, 0) = 1000 1000 1005
            copy(0, 0, 7, 0, 0) = 1
            copy(0, 5, 7, 3, 0) = 1
            lay(7, ?, 0) = 1000 1000 1000
            lay(0, ?, 0) = 1001 1002 1003 1004 1005
            """);
        e.promise(5, "(perhaps itself) from one on, as if taken ahead: 1.", """
            bytes(0, 1, 2, 3, 4, 5)
            copy(0, 0, 0, 1, 4) = 1
            lay(0, ?, 9) = 1001 1001 1002 1003 1004
            bytes(1, 1, 2, 3, 4, 5)
            copy(1, 1, 1, 0, 4) = 1
            lay(1, ?, 9) = 1002 1003 1004 1005 1005
            bytes(2, 1, -2, 3)
            copy(2, 0, 2, 0, 3) = 1
            lay(2, ?, 9) = 1001 998 1003
            """);
        e.promise(5, "rows of 0 to 48 bytes", """
            fill(0, 48, 7)
            row(1, 48)
            copy(0, 0, 1, 0, 48) = 1
            lay(1, 0, 0) = 1007
            lay(1, 47, 0) = 1007
            copy(0, 0, 1, 0, 49) = BEYOND
            row(2, 0)
            copy(2, 0, 2, 0, 0) = 1
            copy(2, 0, 1, 48, 0) = 1
            copy(2, 0, 1, 0, 1) = BEYOND
            copy(1, 0, 2, 0, 1) = BEYOND
            """);
    }

    private static void copyRefused(Edges e) {
        e.promise(5, "BEYOND: not so many there.", """
            bytes(0, 1, 2, 3)
            bytes(1, 4, 5)
            copy(0, 1, 1, 0, 2) = 1
            copy(0, 2, 1, 0, 2) = BEYOND
            copy(0, 1, 1, 0, 3) = BEYOND
            copy(1, 0, 0, 1, 2) = 1
            copy(1, 0, 0, 2, 2) = BEYOND
            copy(1, 0, 0, 0, 3) = BEYOND
            copy(0, -1, 1, 0, 1) = BEYOND
            copy(0, 0, 1, -1, 1) = BEYOND
            copy(0, -1, 1, 0, 0) = BEYOND
            copy(0, 0, 1, -1, 0) = BEYOND
            copy(0, 3, 1, 2, 0) = 1
            copy(0, 4, 1, 0, 0) = BEYOND
            copy(0, 0, 1, 3, 0) = BEYOND
            copy(0, max, 1, 0, 1) = BEYOND
            copy(0, 0, 1, max, 1) = BEYOND
            copy(0, max, 1, max, max) = BEYOND
            copy(0, 1, 1, 0, max) = BEYOND
            copy(0, min, 1, min, max) = BEYOND
            lay(0, ?, 0) = 1001 1002 1003
            """);
        e.promise(5, "BAD; SIZE: n below 0; NOTHING: either", """
            row(0, 2)
            row(7, 2)
            copy(-1, 0, 0, 0, 1) = BAD
            copy(8, 0, 0, 0, 1) = BAD
            copy(0, 0, -1, 0, 1) = BAD
            copy(0, 0, 8, 0, 1) = BAD
            copy(7, 0, 7, 1, 1) = 1
            copy(8, 0, 0, 0, -1) = BAD
            copy(0, 0, 8, 0, -1) = BAD
            copy(1, 9, -1, 9, 1) = BAD
            copy(0, 0, 7, 0, -1) = SIZE
            copy(0, 0, 7, 0, min) = SIZE
            copy(0, 9, 7, 9, -1) = SIZE
            copy(1, 0, 2, 0, -1) = SIZE
            copy(1, 0, 0, 0, 0) = NOTHING
            copy(0, 0, 1, 0, 0) = NOTHING
            copy(1, 0, 2, 0, 1) = NOTHING
            copy(1, 9, 0, 9, 9) = NOTHING
            copy(0, 9, 1, 9, 9) = NOTHING
            copy(0, 0, 7, 0, 0) = 1
            """);
    }
}
