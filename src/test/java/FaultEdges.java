/** Boundaries of promises 41 to 46: HEARD ROWS, FAULTS and WIND. */
final class FaultEdges {
    /** Numbers of FAULTS (sort, first, second) that there are not, each beside ones that there are. */
    private static final String[] NO_FAULTS = {
        "min, 0, 0", "-1, 0, 0", "5, 0, 0", "max, 0, 0",
        "1, min, 0", "1, -1, 0", "1, 0, 0", "1, 12, 0", "1, max, 0", "1, 1, min", "1, 1, -1", "1, 1, 48", "1, 1, max",
        "2, min, 0", "2, -1, 0", "2, 0, 0", "2, 13, 0", "2, max, 0", "2, 1, min", "2, 1, -1", "2, 1, 25", "2, 1, max",
        "3, min, 0", "3, -1, 0", "3, 0, 0", "3, 12, 0", "3, max, 0",
        "4, min, 0", "4, -1, 0", "4, -1, -1", "4, 0, -1", "4, 1, 0", "4, 47, 46", "4, 0, 48", "4, 47, 48", "4, 48, 48",
        "4, 48, 47", "4, 0, max", "4, max, max"};
    /** FAULTS that there are, at their boundaries. */
    private static final String[] FAULTS = {
        "0, 0, 0", "0, min, max", "0, -1, 99",
        "1, 1, 0", "1, 2, 1", "1, 10, 46", "1, 11, 0", "1, 1, 47", "1, 11, 47",
        "2, 1, 0", "2, 12, 24", "2, 1, 24", "2, 12, 0", "2, 11, 23", "2, 2, 1",
        "3, 1, 0", "3, 11, 0", "3, 1, -1", "3, 11, min", "3, 2, max",
        "4, 0, 0", "4, 0, 47", "4, 47, 47", "4, 46, 47", "4, 1, 1", "4, 0, 1"};

    private FaultEdges() {
    }

    static void all(Edges e) {
        due(e);
        dueNumbers(e);
        dueByOut(e);
        dueByNotch(e);
        dueByLost(e);
        dueByDeaf(e);
        misfits(e);
        misfitsNumbers(e);
        fault(e);
        faultOfAlike(e);
        faultRefused(e);
        faultTold(e);
        explained(e);
        explainedRefused(e);
        windy(e);
        windyNumbers(e);
    }

    private static void due(Edges e) {
        e.promise(41, "What should be heard at place i (0 .. 47) of a HEARD ROW from an hour on by a FAULT.", """
            due(min, 0, 0, 0, 0) = BAD
            due(-1, 0, 0, 0, 0) = BAD
            due(0, 0, 0, 0, 0) = BAD
            due(1, 0, 0, 0, 0) = 1
            due(2, 0, 0, 0, 0) = 2
            due(11, 0, 0, 0, 0) = 11
            due(12, 0, 0, 0, 0) = 12
            due(13, 0, 0, 0, 0) = BAD
            due(max, 0, 0, 0, 0) = BAD
            due(1, min, 0, 0, 0) = BAD
            due(1, -1, 0, 0, 0) = BAD
            due(12, 1, 0, 0, 0) = 1
            due(12, 11, 0, 0, 0) = 11
            due(12, 12, 0, 0, 0) = 12
            due(12, 13, 0, 0, 0) = 1
            due(1, 46, 0, 0, 0) = 11
            due(1, 47, 0, 0, 0) = 12
            due(12, 47, 0, 0, 0) = 11
            due(1, 48, 0, 0, 0) = BAD
            due(1, max, 0, 0, 0) = BAD
            """);
    }

    private static void dueNumbers(Edges e) {
        StringBuilder bad = new StringBuilder();
        for (String fault : NO_FAULTS) {
            bad.append("due(5, 3, ").append(fault).append(") = BAD\n");
        }
        e.promise(41, "BAD: the hour, i, the FAULT's numbers (of a sort that has none they are not looked at).", bad.toString());
        StringBuilder good = new StringBuilder();
        for (String fault : FAULTS) {
            good.append("due(5, 3, ").append(fault).append(")\n");
        }
        good.append("findings(?) = BAD 0 0 0 0 0\ndue(5, 3, 0, min, max) = 8\ndue(5, 3, 3, 2, min) = 6\n");
        good.append("due(5, 3, 3, 2, max) = 6\n");
        e.promise(41, "(of a sort that has none they are not looked at)", good.toString());
    }

    private static void dueByOut(Edges e) {
        e.promise(41, "1 OUT by k (1 .. 11) from place s (0 .. 47) on: h and k, round 12 (h before).", """
            due(1, 0, 1, 1, 0) = 2
            due(1, 0, 1, 11, 0) = 12
            due(2, 0, 1, 10, 0) = 12
            due(2, 0, 1, 11, 0) = 1
            due(12, 0, 1, 1, 0) = 1
            due(12, 0, 1, 11, 0) = 11
            due(11, 0, 1, 1, 0) = 12
            due(11, 0, 1, 2, 0) = 1
            due(4, 0, 1, 5, 1) = 4
            due(4, 1, 1, 5, 1) = 10
            due(4, 2, 1, 5, 1) = 11
            due(4, 19, 1, 5, 20) = 11
            due(4, 20, 1, 5, 20) = 5
            due(4, 21, 1, 5, 20) = 6
            due(4, 46, 1, 5, 47) = 2
            due(4, 47, 1, 5, 47) = 8
            """);
    }

    private static void dueByNotch(Edges e) {
        e.promise(41, "2 one NOTCH: at hour g (1 .. 12) always v (0 .. 24), else h.", """
            due(1, 0, 2, 1, 0) = 0
            due(1, 0, 2, 1, 24) = 24
            due(1, 1, 2, 1, 24) = 2
            due(1, 11, 2, 1, 24) = 12
            due(1, 12, 2, 1, 24) = 24
            due(1, 36, 2, 1, 7) = 7
            due(1, 47, 2, 1, 7) = 12
            due(1, 47, 2, 12, 7) = 7
            due(1, 46, 2, 12, 7) = 11
            due(1, 35, 2, 12, 7) = 7
            due(12, 0, 2, 12, 7) = 7
            due(12, 1, 2, 12, 7) = 1
            """);
    }

    private static void dueByLost(Edges e) {
        e.promise(41, "3 LOST strokes: h less d (1 .. 11), 0 at least.", """
            due(1, 0, 3, 1, 0) = 0
            due(2, 0, 3, 1, 0) = 1
            due(12, 0, 3, 1, 0) = 11
            due(4, 0, 3, 5, 0) = 0
            due(5, 0, 3, 5, 0) = 0
            due(6, 0, 3, 5, 0) = 1
            due(1, 0, 3, 11, 0) = 0
            due(11, 0, 3, 11, 0) = 0
            due(12, 0, 3, 11, 0) = 1
            due(12, 1, 3, 11, 0) = 0
            """);
    }

    private static void dueByDeaf(Edges e) {
        e.promise(41, "4 DEAF: 0 from place s to place e (0 .. 47, s not above e), else h.", """
            due(7, 2, 4, 3, 5) = 9
            due(7, 3, 4, 3, 5) = 0
            due(7, 4, 4, 3, 5) = 0
            due(7, 5, 4, 3, 5) = 0
            due(7, 6, 4, 3, 5) = 1
            due(7, 3, 4, 4, 4) = 10
            due(7, 4, 4, 4, 4) = 0
            due(7, 5, 4, 4, 4) = 12
            due(7, 0, 4, 0, 0) = 0
            due(7, 1, 4, 0, 0) = 8
            due(7, 46, 4, 47, 47) = 5
            due(7, 47, 4, 47, 47) = 0
            due(7, 0, 4, 0, 47) = 0
            due(7, 47, 4, 0, 47) = 0
            """);
    }

    private static void misfits(Edges e) {
        e.promise(42, "MISFITS: places at which somebody listened and heard something else.", """
            bytes(0, 5, 5, 0, -1, -128, 24, 25, 127)
            misfits(0, 5, 0, 0, 0) = 5
            misfits(0, 4, 0, 0, 0) = 5
            misfits(0, 4, 2, 6, 0) = 4
            misfits(0, 5, 2, 7, 0) = 4
            misfits(0, 5, 4, 2, 2) = 4
            misfits(0, 5, 4, 0, 47) = 5
            misfits(0, 5, 3, 1, 0) = 5
            misfits(0, 5, 1, 11, 1) = 4
            misfits(0, 5, 2, 10, 24) = 4
            row(1, 0)
            misfits(1, 1, 0, 0, 0) = 0
            misfits(1, 12, 4, 0, 47) = 0
            row(2, 48)
            misfits(2, 1, 0, 0, 0) = 48
            misfits(2, 1, 4, 0, 47) = 0
            misfits(2, 1, 4, 1, 46) = 2
            misfits(2, 1, 3, 11, 0) = 4
            misfits(2, 12, 3, 11, 0) = 4
            fill(3, 48, -1)
            misfits(3, 1, 0, 0, 0) = 0
            bytes(4, 1)
            misfits(4, 1, 1, 1, 0) = 1
            misfits(4, 1, 1, 1, 1) = 0
            misfits(4, 1, 4, 0, 0) = 1
            misfits(4, 1, 4, 1, 1) = 0
            """);
    }

    private static void misfitsNumbers(Edges e) {
        e.promise(42, "BAD; NOTHING. (s, e 0 .. 47.)", withFault("misfits"));
        e.promise(42, "BAD; NOTHING. (s, e 0 .. 47.)", good("misfits"));
        e.promise(42, "BAD; NOTHING. (s, e 0 .. 47.)", refused("misfits(ROW, HOUR, 0, 0, 0)", "0"));
        e.promise(42, "BAD; NOTHING. (s, e 0 .. 47.)", """
            misfits(0, 1, 4, 0, 48) = BAD
            misfits(0, 0, 0, 0, 0) = BAD
            misfits(0, 1, 0, 0, 0) = NOTHING
            misfits(0, 1, 4, 0, 47) = NOTHING
            """);
    }

    private static String withFault(String call) {
        StringBuilder lines = new StringBuilder("bytes(0, 1, 0, 3)\n");
        for (String fault : NO_FAULTS) {
            lines.append(call).append("(0, 1, ").append(fault).append(") = BAD\n");
        }
        return lines.toString();
    }

    private static String good(String call) {
        StringBuilder lines = new StringBuilder("bytes(0, 1, 0, 3)\n");
        for (String fault : FAULTS) {
            lines.append(call).append("(0, 1, ").append(fault).append(")\n");
        }
        return lines.append("findings(?) = BAD 0 0 0 0 0\n").toString();
    }

    /** ROWS and hours that there are, and that there are not; ROW 3 is missing. */
    private static String refused(String call, String fits) {
        StringBuilder lines = new StringBuilder("bytes(0, 1)\nbytes(7, 12)\n");
        for (String row : new String[] {"min", "-1", "8", "max"}) {
            lines.append(asks(call, row, "1", "BAD"));
        }
        for (String hour : new String[] {"min", "-1", "0", "13", "max"}) {
            lines.append(asks(call, "0", hour, "BAD")).append(asks(call, "3", hour, "BAD"));
        }
        lines.append(asks(call, "8", "13", "BAD"));
        lines.append(asks(call, "3", "1", "NOTHING")).append(asks(call, "3", "12", "NOTHING"));
        lines.append(asks(call, "0", "1", fits)).append(asks(call, "7", "12", fits));
        lines.append("tear(0)\n").append(asks(call, "0", "1", "NOTHING"));
        return lines.toString();
    }

    private static String asks(String call, String row, String hour, String answer) {
        return call.replace("ROW", row).replace("HOUR", hour) + " = " + answer + "\n";
    }

    private static void fault(Edges e) {
        e.promise(43, "THE FAULT: that with the fewest MISFITS", """
            row(0, 0)
            fault(0, 1) = 0
            asked() = 0
            fill(1, 48, -1)
            fault(1, 12) = 0
            asked() = 0
            fill(2, 48, 25)
            fault(2, 1) = 0
            asked() = 48
            row(3, 48)
            fault(3, 1) = 4
            asked() = 0
            faultTold(false) = 0
            faultTold(true) = 47
            lay(3, 47, 12)
            fault(3, 1) = 4
            asked() = 0
            faultTold(true) = 46
            lay(3, 0, 1)
            fault(3, 1) = 4
            faultTold(false) = 1
            faultTold(true) = 46
            bytes(4, 24)
            fault(4, 7) = 2
            asked() = 0
            faultTold(false) = 7
            faultTold(true) = 24
            lay(4, 0, 25)
            fault(4, 7) = 0
            asked() = 1
            lay(4, 0, 0)
            fault(4, 7) = 2
            lay(4, 0, -1)
            fault(4, 7) = 0
            asked() = 0
            """);
        e.promise(43, "places at which somebody listened and heard something else", """
            bytes(0, 1, 2, 3, 4, 5, 6, 7, 8, 9, 10, 11, 12)
            fault(0, 1) = 0
            fault(0, 12) = 1
            faultTold(false) = 1
            faultTold(true) = 0
            fault(0, 2) = 1
            faultTold(false) = 11
            faultTold(true) = 0
            lay(0, 3, 9)
            fault(0, 1) = 2
            faultTold(false) = 4
            faultTold(true) = 9
            asked() = 0
            lay(0, 4, 10)
            fault(0, 1) = 2
            faultTold(false) = 4
            faultTold(true) = 9
            asked() = 1
            """);
    }

    private static void faultOfAlike(Edges e) {
        e.promise(43, "of alike ones the least sort, then the least first number (k, g, d, s), then the least second one (s, v, 0, e)",
            """
            bytes(0, 1, 2, 10)
            fault(0, 1) = 1
            faultTold(false) = 7
            faultTold(true) = 2
            bytes(1, 1, -1, -1, 11)
            fault(1, 1) = 1
            faultTold(false) = 7
            faultTold(true) = 1
            bytes(2, 5, 0)
            fault(2, 5) = 2
            faultTold(false) = 6
            faultTold(true) = 0
            bytes(3, 0)
            fault(3, 5) = 2
            faultTold(false) = 5
            bytes(4, 0, 0)
            fault(4, 1) = 3
            faultTold(false) = 2
            asked() = 0
            bytes(5, 1, 0, 0)
            fault(5, 1) = 4
            faultTold(false) = 1
            faultTold(true) = 2
            bytes(6, 1, 0, 0, -1, -1)
            fault(6, 1) = 4
            faultTold(false) = 1
            faultTold(true) = 2
            bytes(7, 1, -1, 0, 0, -1, 6)
            fault(7, 1) = 4
            faultTold(false) = 1
            faultTold(true) = 3
            """);
        e.promise(43, "of alike ones the least sort", """
            bytes(0, 3, 9)
            fault(0, 1) = 1
            faultTold(false) = 2
            faultTold(true) = 0
            asked() = 1
            bytes(1, 13, 14)
            fault(1, 1) = 2
            faultTold(false) = 1
            faultTold(true) = 13
            asked() = 1
            bytes(2, 24, 25)
            fault(2, 1) = 2
            faultTold(false) = 1
            faultTold(true) = 24
            bytes(3, 25, 24)
            fault(3, 1) = 2
            faultTold(false) = 2
            faultTold(true) = 24
            """);
    }

    private static void faultRefused(Edges e) {
        e.promise(43, "THE FAULT of a HEARD ROW from an hour on: its sort; its MISFITS by asked(). BAD; NOTHING.",
            refused("fault(ROW, HOUR)", "0"));
        e.promise(43, "of a HEARD ROW from an hour on", """
            bytes(0, 7, 9, 25)
            fault(0, 7) = 1
            asked() = 1
            fault(0, 0) = BAD
            fault(0, 13) = BAD
            fault(1, 7) = NOTHING
            fault(1, 0) = BAD
            asked() = 1
            faultTold(false) = 1
            faultTold(true) = 1
            """);
    }

    private static void faultTold(Edges e) {
        e.promise(44, "NONE: it has none such, none was told.", """
            faultTold(false) = NONE
            faultTold(true) = NONE
            fault(0, 1) = NOTHING
            fault(0, 0) = BAD
            faultTold(false) = NONE
            faultTold(true) = NONE
            bytes(0, 5)
            fault(0, 5) = 0
            faultTold(false) = NONE
            faultTold(true) = NONE
            fault(0, 4) = 1
            faultTold(false) = 1
            faultTold(true) = 0
            bytes(1, 0, 0)
            fault(1, 3) = 3
            faultTold(false) = 4
            faultTold(true) = NONE
            fault(1, 13) = BAD
            fault(5, 1) = NOTHING
            faultTold(false) = 4
            bytes(2, 0)
            fault(2, 9) = 2
            faultTold(false) = 9
            faultTold(true) = 0
            misfits(0, 4, 0, 0, 0) = 1
            explained(0, 4)
            windy(0, 4, 0, 0, 0) = 0
            faultTold(false) = 9
            faultTold(true) = 0
            """);
    }

    private static void explained(Edges e) {
        int all = 1 + 11 * 48 + 12 * 25 + 11 + 48 * 49 / 2;
        e.promise(45, "How many FAULTS (each sort with each numbers) have no MISFITS in a HEARD ROW from an hour on.", """
            row(0, 0)
            explained(0, 1) = everyone
            explained(0, 12) = everyone
            fill(1, 48, -1)
            explained(1, 7) = everyone
            fill(1, 48, -128)
            explained(1, 7) = everyone
            row(2, 48)
            explained(2, 1) = 1
            lay(2, 47, 12)
            explained(2, 1) = 1
            lay(2, 47, 25)
            explained(2, 1) = 0
            bytes(3, 12)
            explained(3, 12) = atTwelve
            lay(3, 0, 24)
            explained(3, 12) = 1
            lay(3, 0, 25)
            explained(3, 12) = 0
            lay(3, 0, 11)
            explained(3, 12) = 3
            lay(3, 0, 0)
            explained(3, 12) = 49
            explained(3, 11) = 50
            explained(3, 1) = 60
            """.replace("everyone", "" + all)
            .replace("atTwelve", "" + (1 + 11 * 47 + 11 * 25 + 1 + 47 * 48 / 2)));
    }

    private static void explainedRefused(Edges e) {
        int one = 1 + 11 * 47 + 11 * 25 + 1 + 47 * 48 / 2;
        e.promise(45, "BAD; NOTHING.", refused("explained(ROW, HOUR)", "" + one));
    }

    private static void windy(Edges e) {
        e.promise(46, "it agrees with what should be heard, if at no place more was heard", """
            bytes(0, 4, 5, 6)
            windy(0, 4, 0, 0, 0) = 1
            windy(0, 5, 0, 0, 0) = 1
            asked() = 0
            windy(0, 3, 0, 0, 0) = 0
            asked() = 0
            lay(0, 1, 6)
            windy(0, 4, 0, 0, 0) = 0
            asked() = 1
            lay(0, 1, 4)
            windy(0, 4, 0, 0, 0) = 1
            lay(0, 2, 7)
            windy(0, 4, 0, 0, 0) = 0
            asked() = 2
            lay(0, 0, 5)
            windy(0, 4, 0, 0, 0) = 0
            asked() = 0
            bytes(1, 0, -1, -128)
            windy(1, 1, 4, 0, 47) = 1
            windy(1, 1, 3, 11, 0) = 1
            lay(1, 0, 1)
            windy(1, 1, 4, 0, 0) = 0
            windy(1, 1, 4, 1, 1) = 1
            row(2, 0)
            windy(2, 1, 4, 0, 47) = 1
            row(3, 48)
            windy(3, 1, 4, 0, 47) = 1
            lay(3, 47, 1)
            windy(3, 1, 4, 0, 47) = 0
            asked() = 47
            windy(3, 1, 4, 0, 46) = 1
            lay(3, 47, 12)
            windy(3, 1, 0, 0, 0) = 1
            lay(3, 47, 13)
            windy(3, 1, 0, 0, 0) = 0
            windy(3, 1, 2, 12, 13) = 1
            windy(3, 1, 2, 12, 12) = 0
            """);
    }

    private static void windyNumbers(Edges e) {
        e.promise(46, "BAD; NOTHING.", withFault("windy"));
        e.promise(46, "BAD; NOTHING.", good("windy"));
        e.promise(46, "BAD; NOTHING.", refused("windy(ROW, HOUR, 0, 0, 0)", "1"));
        e.promise(46, "0: more was heard at a place; the first by asked(). BAD; NOTHING.", """
            bytes(0, 1, 2, 9)
            windy(0, 1, 0, 0, 0) = 0
            asked() = 2
            windy(0, 0, 0, 0, 0) = BAD
            windy(0, 1, 5, 0, 0) = BAD
            windy(1, 1, 0, 0, 0) = NOTHING
            windy(1, 1, 4, 1, 0) = BAD
            asked() = 2
            """);
    }
}
