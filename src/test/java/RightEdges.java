/** Boundaries of promises 37 to 40: PLATES that are RIGHT, and PUTTING RIGHT. */
final class RightEdges {
    /** TOWER 0 with a PLATE that strikes the hours, TRAIN 0, as its HOUR TRAIN. */
    private static final String HOURS = """
        tower(0)
        bytes(0, 1, 2, 3, 4, 5, 6, 7, 8, 9, 10, 11, 12)
        plate(0) = 0
        hang(0, 0, false)
        """;

    private RightEdges() {
    }

    static void all(Edges e) {
        hours(e);
        quarters(e);
        rightRefused(e);
        offRefused(e);
        putRight(e);
        putRightRefused(e);
        putRightUnlike(e);
        act(e);
    }

    /** At the first and the last minute of each hour, for PLATES of as many NOTCHES as hours, and of more and fewer. */
    private static void hours(Edges e) {
        for (int notches : new int[] {1, 2, 11, 12, 13, 24}) {
            StringBuilder lines = new StringBuilder("tower(0)\nfill(0, " + notches + ", 3)\nplate(0) = 0\n");
            lines.append("hang(0, 0, false)\n");
            for (int hour = 0; hour < 24; hour++) {
                int next = hour % 12 % notches;
                for (int minute = 0; minute < 60; minute += 59) {
                    lines.append("hands(0, ").append(hour * 60 + minute).append(")\nput(0, ").append(next).append(")\n");
                    lines.append("right(0, false) = 1\noff(0, false) = 0\n");
                }
                lines.append("put(0, ").append((next + 1) % notches).append(")\n");
                lines.append("right(0, false) = ").append(notches == 1 ? 1 : 0).append("\n");
                lines.append("off(0, false) = ").append(notches == 1 ? 0 : 1).append("\n");
                lines.append("put(0, ").append((next + notches - 1) % notches).append(")\n");
                lines.append("off(0, false) = ").append(notches - 1).append("\n");
            }
            e.promise(37, "(h less 1, modulo n, for the hour h, 1 .. 12, that the HANDS tell as they next come to minute 0)",
                lines.toString());
            e.promise(38, "By how many NOTCHES it stands ahead of that at which it would be RIGHT (0 .. n - 1).",
                lines.toString());
        }
    }

    private static void quarters(Edges e) {
        for (int notches : new int[] {1, 3, 4, 5}) {
            StringBuilder lines = new StringBuilder("tower(0)\nfill(0, " + notches + ", 3)\nbarrel(0, 0) = 0\n");
            lines.append("hang(0, 0, true)\n");
            for (int minute : new int[] {0, 1, 14, 15, 16, 29, 30, 31, 44, 45, 46, 58, 59, 60, 1439}) {
                int next = minute % 60 / 15 % notches;
                lines.append("hands(0, ").append(minute).append(")\n");
                for (int at = 0; at < notches; at++) {
                    lines.append("put(0, ").append(at).append(")\n");
                    lines.append("right(0, true) = ").append(at == next ? 1 : 0).append("\n");
                    lines.append("off(0, true) = ").append((at - next + notches) % notches).append("\n");
                }
            }
            e.promise(37, "of the QUARTER TRAIN the quarter that comes next, likewise", lines.toString());
            e.promise(38, "By how many NOTCHES it stands ahead of that at which it would be RIGHT (0 .. n - 1).",
                lines.toString());
        }
    }

    private static void rightRefused(Edges e) {
        e.promise(37, "BAD; NOTHING: none is there; UNLIKE.", refused("right", "1"));
    }

    private static void offRefused(Edges e) {
        e.promise(38, "BAD; NOTHING; UNLIKE.", refused("off", "0"));
    }

    private static String refused(String call, String right) {
        return """
            tower(0)
            tower(3)
            bytes(0, 5, 6)
            train() = 0
            plate(0) = 1
            snail(0) = 2
            barrel(0, 0) = 3
            asks(min, false) = BAD
            asks(-1, false) = BAD
            asks(4, true) = BAD
            asks(max, true) = BAD
            asks(1, false) = NOTHING
            asks(2, true) = NOTHING
            asks(0, false) = NOTHING
            asks(3, true) = NOTHING
            hang(0, 0, false)
            asks(0, false) = UNLIKE
            asks(0, true) = NOTHING
            hang(0, 2, true)
            asks(0, true) = UNLIKE
            hang(0, 1, false) = 0
            asks(0, false) = fits
            hang(0, 3, true) = 2
            asks(0, true) = fits
            unhang(0, false) = 1
            asks(0, false) = NOTHING
            hang(3, 1, true)
            asks(3, true) = fits
            asks(3, false) = NOTHING
            """.replace("asks", call).replace("fits", right);
    }

    private static void putRight(Edges e) {
        e.promise(39, "The least strokes in all, with which it is RIGHT and the HANDS tell a told hour as that which comes next",
            HOURS + """
            putRight(0, 1) = 0
            asked() = 0
            act(0) = NONE
            putRight(0, 2) = 1
            act(?) = 1 NONE
            putRight(0, 12) = 66
            asked() = 11
            act(?) = 1 1 1 1 1 1 1 1 1 1 1 NONE
            hands(0, 59)
            putRight(0, 1) = 0
            hands(0, 60)
            putRight(0, 1) = 0
            asked() = 1
            act(?) = 2 NONE
            putRight(0, 2) = 1
            act(?) = 0 NONE
            putRight(0, 3) = 3
            act(?) = 0 1 NONE
            hands(0, 719)
            putRight(0, 1) = 0
            asked() = 11
            act(?) = 2 2 2 2 2 2 2 2 2 2 2 NONE
            putRight(0, 12) = 66
            act(?) = 0 0 0 0 0 0 0 0 0 0 0 NONE
            hands(0, 720)
            putRight(0, 1) = 0
            asked() = 0
            hands(0, 1439)
            putRight(0, 12) = 66
            asked() = 11
            put(0, 11)
            putRight(0, 12) = 0
            asked() = 0
            putRight(0, 1) = 12
            asked() = 1
            act(?) = 1 NONE
            hands(0, 0)
            putRight(0, 1) = 12
            act(?) = 0 NONE
            """);
        e.promise(39, "of alike ones the fewest acts", HOURS + """
            put(0, 1)
            putRight(0, 2) = 0
            asked() = 11
            act(?) = 2 2 2 2 2 2 2 2 2 2 2 NONE
            putRight(0, 3) = 2
            asked() = 11
            act(?) = 0 2 2 2 2 2 2 2 2 2 2 NONE
            putRight(0, 1) = 77
            asked() = 11
            act(?) = 0 0 0 0 0 0 0 0 0 0 0 NONE
            """);
    }

    private static void putRightRefused(Edges e) {
        e.promise(39, "PUTTING RIGHT for a told hour (1 .. 12)", HOURS + """
            tower(3)
            put(0, 3)
            putRight(0, 7) = 15
            asked() = 9
            act(?) = 0 0 0 2 2 2 2 2 2 NONE
            putRight(0, min) = BAD
            putRight(0, -1) = BAD
            putRight(0, 0) = BAD
            putRight(0, 13) = BAD
            putRight(0, max) = BAD
            putRight(-1, 1) = BAD
            putRight(4, 1) = BAD
            putRight(1, 0) = BAD
            putRight(1, 13) = BAD
            putRight(3, 0) = BAD
            putRight(1, 1) = NOTHING
            putRight(2, 12) = NOTHING
            putRight(3, 1) = NOTHING
            asked() = 9
            act(?) = 0 0 0 2 2 2 2 2 2 NONE
            putRight(0, 1) = 72
            putRight(0, 12) = 60
            putRight(0, 2) = 73
            unhang(0, false) = 0
            putRight(0, 1) = NOTHING
            hang(0, 0, true)
            putRight(0, 1) = NOTHING
            asked() = 10
            """);
    }

    private static void putRightUnlike(Edges e) {
        e.promise(39, "UNLIKE: no PLATE (a BARREL is one), or not of 12 NOTCHES. (Nothing changes.)", HOURS + """
            train() = 1
            snail(0) = 2
            barrel(0, 0) = 3
            fill(1, 11, 1)
            plate(1) = 4
            fill(1, 13, 1)
            plate(1) = 5
            fill(1, 24, 1)
            barrel(1, 1) = 6
            putRight(0, 2) = 1
            hang(0, 1, false)
            putRight(0, 2) = UNLIKE
            putRight(0, 13) = BAD
            hang(0, 2, false)
            putRight(0, 2) = UNLIKE
            hang(0, 4, false)
            putRight(0, 2) = UNLIKE
            hang(0, 5, false)
            putRight(0, 2) = UNLIKE
            hang(0, 6, false)
            putRight(0, 2) = UNLIKE
            asked() = 1
            hang(0, 3, false)
            putRight(0, 3) = 3
            told(3, ?) = 3 12 0 30 1000 0 0 0
            tells(0, 0) = 0
            count(5) = 0
            """);
    }

    private static void act(Edges e) {
        e.promise(40, "Act i (0 A, 1 B, 2 C) of the latest putRight() that was not refused", HOURS + """
            act(min) = NONE
            act(-1) = NONE
            act(0) = NONE
            act(max) = NONE
            hands(0, 60)
            putRight(0, 4) = 6
            act(-1) = NONE
            act(?) = 0 1 1 NONE NONE
            putRight(0, 13) = BAD
            putRight(3, 1) = NOTHING
            act(?) = 0 1 1 NONE
            putRight(0, 1) = 0
            act(?) = 2 NONE NONE NONE
            unhang(0, false)
            act(?) = 2 NONE
            hang(0, 0, false)
            hands(0, 0)
            putRight(0, 1) = 0
            act(0) = NONE
            hands(0, 659)
            putRight(0, 1) = 0
            act(min) = NONE
            act(?) = 2 2 2 2 2 2 2 2 2 2 NONE
            act(11) = NONE
            act(12) = NONE
            act(max) = NONE
            """);
    }
}
