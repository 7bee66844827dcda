/** Boundaries of promises 47 to 52: WHEELS, and how long WEIGHTS last. */
final class WheelEdges {
    private WheelEdges() {
    }

    static void all(Edges e) {
        wheel(e);
        nearest(e);
        nearestOfTwelve(e);
        nearestOfAlike(e);
        nearestRefused(e);
        chosen(e);
        daily(e);
        lasting(e);
        lastingBySum(e);
        lastingRefused(e);
        lastingDays(e);
        lastingDaysOfNotches(e);
    }

    private static void wheel(Edges e) {
        e.promise(47, "WHEELS: teeth, 0, 1, .. (12 at most; 6 .. 200 each).", """
            wheel(min) = BAD
            wheel(-1) = BAD
            wheel(0) = BAD
            wheel(5) = BAD
            wheel(6) = 0
            wheel(7) = 1
            wheel(199) = 2
            wheel(200) = 3
            wheel(201) = BAD
            wheel(max) = BAD
            count(3) = 4
            nearest(1, 1, 1) = 1
            upper() = 199
            lower() = 200
            nearest(1, 10000, 1) = 1
            upper() = 3
            lower() = 100
            6 * wheel(60)
            wheel(60) = 10
            wheel(60) = 11
            wheel(60) = FULL
            wheel(6) = FULL
            wheel(200) = FULL
            wheel(5) = BAD
            wheel(201) = BAD
            count(3) = 12
            """);
    }

    private static void nearest(Edges e) {
        e.promise(48, "of all GEARS of one pair (n 1) or two pairs (n 2; their fractions multiplied) of WHEELS (each WHEEL once at most)",
            """
            wheel(10) = 0
            wheel(20) = 1
            nearest(1, 1, 1) = 1
            upper() = 1
            lower() = 2
            nearest(2, 1, 1) = 1
            upper() = 2
            lower() = 1
            nearest(10000, 10000, 1) = 1
            upper() = 1
            nearest(10000, 1, 1) = 1
            upper() = 2
            nearest(1, 10000, 1) = 1
            lower() = 2
            wheel(30) = 2
            wheel(60) = 3
            nearest(1, 1, 2) = 1
            upper() = 1
            lower() = 1
            chosen(?) = 0 1 3 2 NONE
            nearest(36, 10, 2) = 1
            upper() = 4
            lower() = 1
            chosen(?) = 1 0 3 2 NONE
            nearest(5, 2, 1) = 1
            upper() = 2
            lower() = 1
            chosen(?) = 1 0 NONE
            """);
        e.promise(48, "A RATIO that is due: u by v (1 .. 10000 each).", """
            wheel(199) = 0
            wheel(200) = 1
            wheel(198) = 2
            nearest(9950, 10000, 1) = 1
            upper() = 199
            lower() = 200
            nearest(9949, 10000, 1) = 1
            upper() = 198
            lower() = 199
            nearest(9951, 10000, 1) = 1
            upper() = 199
            lower() = 200
            nearest(10000, 9999, 1) = 1
            upper() = 200
            lower() = 199
            """);
    }

    private static void nearestOfTwelve(Edges e) {
        e.promise(48, "WHEELS: teeth, 0, 1, .. (12 at most", """
            wheel(200) = 0
            wheel(7) = 1
            8 * wheel(50)
            wheel(199) = 10
            wheel(6) = 11
            nearest(10000, 1, 1) = 1
            upper() = 100
            lower() = 3
            chosen(?) = 0 11 NONE
            nearest(1, 10000, 1) = 1
            upper() = 3
            lower() = 100
            chosen(?) = 11 0 NONE
            nearest(10000, 1, 2) = 1
            upper() = 19900
            lower() = 21
            chosen(?) = 0 1 10 11 NONE
            nearest(1, 10000, 2) = 1
            upper() = 21
            lower() = 19900
            chosen(?) = 1 0 11 10 NONE
            """);
    }

    private static void nearestOfAlike(Edges e) {
        e.promise(48, "of alike ones the first by numbers (the first WHEEL, the second, the third, the fourth)", """
            4 * wheel(50)
            nearest(3, 2, 1) = 1
            chosen(?) = 0 1 NONE
            nearest(3, 2, 2) = 1
            chosen(?) = 0 1 2 3 NONE
            upper() = 1
            lower() = 1
            """);
        e.promise(48, "that which differs least from the RATIO (as a fraction)", """
            wheel(20) = 0
            wheel(40) = 1
            nearest(5, 4, 1) = 1
            chosen(?) = 0 1 NONE
            nearest(1251, 1000, 1) = 1
            chosen(?) = 1 0 NONE
            nearest(1249, 1000, 1) = 1
            chosen(?) = 0 1 NONE
            wheel(40) = 2
            wheel(20) = 3
            nearest(1, 2, 1) = 1
            chosen(?) = 0 1 NONE
            nearest(2, 1, 1) = 1
            chosen(?) = 1 0 NONE
            nearest(1, 1, 1) = 1
            chosen(?) = 0 3 NONE
            nearest(1, 1, 2) = 1
            chosen(?) = 0 1 2 3 NONE
            nearest(1, 4, 2) = 1
            chosen(?) = 0 1 3 2 NONE
            nearest(4, 1, 2) = 1
            chosen(?) = 1 0 2 3 NONE
            """);
    }

    private static void nearestRefused(Edges e) {
        e.promise(48, "BAD: also n not 1, 2; NOUGHT: too few WHEELS.", """
            nearest(1, 1, 1) = NOUGHT
            nearest(1, 1, 2) = NOUGHT
            nearest(1, 1, 0) = BAD
            wheel(10) = 0
            nearest(1, 1, 1) = NOUGHT
            nearest(0, 1, 1) = BAD
            wheel(30) = 1
            nearest(1, 1, 1) = 1
            nearest(1, 1, 2) = NOUGHT
            wheel(20) = 2
            nearest(2, 3, 1) = 1
            nearest(1, 1, 2) = NOUGHT
            nearest(1, 10001, 2) = BAD
            upper() = 2
            lower() = 3
            chosen(?) = 2 1 NONE
            wheel(40) = 3
            nearest(1, 1, 2) = 1
            """);
        e.promise(48, "A RATIO that is due: u by v (1 .. 10000 each).", """
            4 * wheel(10)
            wheel(20) = 4
            nearest(1, 2, 1) = 1
            nearest(min, 1, 1) = BAD
            nearest(-1, 1, 1) = BAD
            nearest(0, 1, 1) = BAD
            nearest(10001, 1, 1) = BAD
            nearest(max, 1, 1) = BAD
            nearest(1, min, 1) = BAD
            nearest(1, -1, 1) = BAD
            nearest(1, 0, 1) = BAD
            nearest(1, 10001, 1) = BAD
            nearest(1, max, 1) = BAD
            nearest(-1, -2, 1) = BAD
            nearest(1, 1, min) = BAD
            nearest(1, 1, -1) = BAD
            nearest(1, 1, 0) = BAD
            nearest(1, 1, 3) = BAD
            nearest(1, 1, max) = BAD
            upper() = 1
            lower() = 2
            chosen(?) = 0 4 NONE
            nearest(1, 1, 1) = 1
            nearest(10000, 10000, 2) = 1
            """);
    }

    private static void chosen(Edges e) {
        e.promise(49, "WHEEL i of the latest nearest() that was not refused; NONE: none such.", """
            chosen(min) = NONE
            chosen(-1) = NONE
            chosen(?) = NONE NONE NONE NONE NONE
            chosen(max) = NONE
            nearest(1, 1, 1) = NOUGHT
            chosen(0) = NONE
            wheel(10)
            wheel(20)
            wheel(40)
            wheel(80)
            nearest(8, 1, 1) = 1
            chosen(min) = NONE
            chosen(-1) = NONE
            chosen(?) = 3 0 NONE NONE NONE
            nearest(16, 1, 2) = 1
            chosen(-1) = NONE
            chosen(?) = 2 0 3 1 NONE NONE
            chosen(max) = NONE
            nearest(1, 1, 3) = BAD
            chosen(?) = 2 0 3 1 NONE
            wheel(100)
            chosen(?) = 2 0 3 1 NONE
            nearest(10, 1, 1) = 1
            chosen(?) = 4 0 NONE NONE NONE
            """);
    }

    private static void daily(Edges e) {
        e.promise(50, "(a TRAIN of KIND 0: once for each LET OFF; an HOUR TRAIN: 24 LET OFF, a QUARTER TRAIN: 96)", """
            train() = 0
            fill(0, 1, 24)
            plate(0) = 1
            snail(0) = 2
            barrel(0, 0) = 3
            daily(?, false) = 24 576 576 576 BAD
            daily(?, true) = 96 2304 2304 2304 BAD
            daily(min, false) = BAD
            daily(-1, false) = BAD
            daily(-1, true) = BAD
            daily(max, true) = BAD
            fill(0, 23, 1)
            lay(0, 0, 5)
            plate(0) = 4
            daily(4, false) = 32
            put(4, 1)
            daily(4, false) = 28
            fill(0, 24, 1)
            lay(0, 0, 5)
            plate(0) = 5
            daily(5, false) = 28
            daily(5, true) = 112
            put(5, 1)
            daily(5, false) = 28
            daily(5, true) = 112
            """);
        e.promise(50, "from 0 on, nothing DUE, as it stands, without SILENCE", """
            tower(0)
            bytes(0, 1, 2, 3, 4, 5)
            plate(0) = 0
            snail(0) = 1
            hang(0, 0, false)
            hang(0, 1, true)
            letOff(0, false) = 1
            hands(0, 700)
            silence(0, 0, 23, 1)
            gear(0, 1, 0)
            gear(1, 1, 0)
            daily(0, false) = 74
            daily(1, true) = 240
            daily(1, false) = 66
            told(0, ?) = 1 5 1 1 0 1 0 0
            told(1, ?) = 2 5 NONE 1 0 0 0 0
            tells(0, ?) = 700 0 20000 1 0 1 0 0 2
            """);
    }

    private static void lasting(Edges e) {
        e.promise(51, "behind how many MINUTES it is 0 (0: it is; from SUM as it is; 1000001: longer than 1000000)", """
            tower(0)
            lasting(0) = 20000
            windGoing(0, 0)
            lasting(0) = 0
            windGoing(0, 1)
            lasting(0) = 1
            windGoing(0, 2)
            lasting(0) = 2
            pass(1)
            lasting(0) = 1
            pass(1)
            lasting(0) = 0
            pass(1)
            lasting(0) = 0
            windGoing(0, 100000)
            lasting(0) = 100000
            rate(0, -3600)
            lasting(0) = 104348
            rate(0, 3600)
            lasting(0) = 96000
            windGoing(0, 99999)
            lasting(0) = 96000
            windGoing(0, 23)
            lasting(0) = 23
            windGoing(0, 24)
            lasting(0) = 24
            windGoing(0, 25)
            lasting(0) = 24
            windGoing(0, 26)
            lasting(0) = 25
            rate(0, -3600)
            windGoing(0, 23)
            lasting(0) = 24
            windGoing(0, 22)
            lasting(0) = 23
            windGoing(0, 24)
            lasting(0) = 26
            windGoing(0, 1)
            lasting(0) = 2
            rate(0, -1)
            lasting(0) = 2
            rate(0, 0)
            lasting(0) = 1
            """);
    }

    private static void lastingBySum(Edges e) {
        e.promise(51, "from SUM as it is", """
            tower(0)
            rate(0, 100)
            pass(1) = 1
            windGoing(0, 1)
            tells(0, 1) = 100
            rate(0, -100)
            lasting(0) = 1
            rate(0, -101)
            lasting(0) = 2
            hands(0, 77)
            lasting(0) = 2
            tower(0) = 1
            rate(0, 3600)
            windGoing(0, 24)
            pass(24) = 25
            tells(0, ?) = 24 86400 0 1
            lasting(0) = 0
            rate(0, 0)
            windGoing(0, 1)
            lasting(0) = 1
            windGoing(0, 2)
            lasting(0) = 1
            windGoing(0, 3)
            lasting(0) = 2
            pass(1) = 26
            tells(0, ?) = 26 0 1 1
            lasting(0) = 1
            """);
    }

    private static void lastingRefused(Edges e) {
        e.promise(51, "NONE: it is STOPPED. BAD; NOTHING.", """
            tower(0)
            tower(3)
            go(0, false)
            lasting(0) = NONE
            windGoing(0, 0)
            lasting(0) = NONE
            go(0, true)
            lasting(0) = 0
            lasting(min) = BAD
            lasting(-1) = BAD
            lasting(4) = BAD
            lasting(max) = BAD
            lasting(1) = NOTHING
            lasting(2) = NOTHING
            lasting(3) = 20000
            """);
    }

    private static void lastingDays(Edges e) {
        StringBuilder lines = new StringBuilder("train() = 0\nfill(0, 1, 2)\nsnail(0) = 1\n");
        for (int weight : new int[] {0, 1, 23, 24, 25, 47, 48, 49, 95, 96, 97, 191, 192, 193, 99999, 100000}) {
            lines.append("gear(0, 1, ").append(weight).append(")\n");
            lines.append("lastingDays(0, false) = ").append(weight / 24).append("\n");
            lines.append("lastingDays(0, true) = ").append(weight / 96).append("\n");
            lines.append("gear(1, 60, ").append(weight).append(")\n");
            lines.append("lastingDays(1, false) = ").append(weight / 48).append("\n");
            lines.append("lastingDays(1, true) = ").append(weight / 192).append("\n");
        }
        e.promise(52, "LASTING of a TRAIN's WEIGHT in whole days of daily() strokes", lines.toString());
        e.promise(52, "LASTING of a TRAIN's WEIGHT in whole days", """
            tower(0)
            fill(0, 1, 1)
            plate(0) = 0
            gear(0, 30, 48)
            hang(0, 0, false)
            lastingDays(0, false) = 2
            letOff(0, false) = 1
            lastingDays(0, false) = 2
            runOut(0, false) = 1
            lastingDays(0, false) = 1
            wind(0) = 1
            lastingDays(0, false) = 2
            lastingDays(0, true) = 0
            lastingDays(min, false) = BAD
            lastingDays(-1, false) = BAD
            lastingDays(1, false) = BAD
            lastingDays(1, true) = BAD
            lastingDays(max, true) = BAD
            told(0, 4) = 48
            """);
    }

    /** A day of 24 LET OFF from NOTCH 0, 4, 3 or 2 strikes 139, from NOTCH 1 on 116. */
    private static void lastingDaysOfNotches(Edges e) {
        StringBuilder lines = new StringBuilder("bytes(0, 24, 1, 1, 1, 1)\nplate(0) = 0\n");
        int[] days = {0, 139, 278, 417, 556, 672, 811};
        for (int d = 0; d < days.length; d++) {
            for (int weight = Math.max(0, days[d] - 1); weight <= days[d] + 1; weight++) {
                lines.append("gear(0, 1, ").append(weight).append(")\n");
                lines.append("lastingDays(0, false) = ").append(weight < days[d] ? d - 1 : d).append("\n");
            }
        }
        lines.append("put(0, 1)\ngear(0, 1, 115)\nlastingDays(0, false) = 0\ngear(0, 1, 116)\nlastingDays(0, false) = 1\n");
        lines.append("gear(0, 1, 254)\nlastingDays(0, false) = 1\ngear(0, 1, 255)\nlastingDays(0, false) = 2\n");
        lines.append("told(0, 2) = 1\ntold(0, 4) = 255\n");
        e.promise(52, "(of the latter from its NOTCH on, day by day)", lines.toString());
    }
}
