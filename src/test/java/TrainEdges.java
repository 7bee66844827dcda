/** Boundaries of promises 6 to 18: TRAINS of each KIND. */
final class TrainEdges {
    /** TRAINS 0 to 3, one of each KIND, and TOWER 0. */
    private static final String EACH_KIND = """
        tower(0)
        bytes(0, 2, 9, 4)
        bytes(1, 3, -1, 0, 8)
        train() = 0
        plate(0) = 1
        snail(0) = 2
        barrel(0, 1) = 3
        """;

    private TrainEdges() {
    }

    static void all(Edges e) {
        train(e);
        full(e);
        notches(e, 7, "plate");
        notches(e, 8, "snail");
        barrel(e);
        pins(e);
        gear(e);
        wind(e);
        broken(e);
        told(e);
        mark(e);
        notch(e);
        cut(e);
        put(e);
        mean(e);
    }

    private static void train(Edges e) {
        e.promise(6, "TRAINS 0, 1, .. (16 at most ever)", """
            train() = 0
            13 * train()
            train() = 14
            train() = 15
            train() = FULL
            train() = FULL
            count(1) = 16
            told(15, 0) = 0
            told(16, 0) = BAD
            """);
        e.promise(6, "TRAINS 0, 1, .. (16 at most ever)", """
            tower(0)
            bytes(0, 5)
            12 * train()
            plate(0) = 12
            snail(0) = 13
            hang(0, 0, false) = NONE
            barrel(0, 0) = 14
            unhang(0, false) = 0
            plate(0) = 15
            train() = FULL
            tower(0) = 1
            train() = FULL
            told(12, 0) = 1
            told(13, 0) = 2
            told(14, 0) = 3
            told(15, 0) = 1
            """);
        e.promise(6, "a PACE (1 .. 60 strokes a minute; 30 at first), a WEIGHT that is WOUND to FALL"
            + " (0 .. 100000; 1000 at first; wound at first)", EACH_KIND + """
            told(0, ?) = 0 0 NONE 30 1000 0 NONE 0
            told(1, ?) = 1 3 0 30 1000 0 NONE 0
            told(2, ?) = 2 3 NONE 30 1000 0 NONE 0
            told(3, ?) = 3 3 0 30 1000 0 NONE 0
            wind(?) = 0 0 0 0
            broken(?, 0) = 0 0 0 0
            mark(3, 3) = 0
            """);
    }

    private static void full(Edges e) {
        for (int promise = 7; promise <= 8; promise++) {
            String call = promise == 7 ? "plate" : "snail";
            e.promise(promise, "BAD; FULL; NOTHING; SIZE", """
                bytes(0, 5)
                row(1, 0)
                15 * train()
                made(2) = NOTHING
                made(1) = SIZE
                made(0) = 15
                made(0) = FULL
                made(1) = FULL
                made(2) = FULL
                made(-1) = BAD
                made(8) = BAD
                findings(1) = 1
                findings(5) = 1
                """.replace("made", call));
        }
        e.promise(9, "BAD; FULL; NOTHING: either; SIZE: as a PLATE, or no PINS.", """
            bytes(0, 5)
            row(1, 0)
            15 * train()
            barrel(0, 2) = NOTHING
            barrel(0, 1) = SIZE
            barrel(0, 0) = 15
            barrel(0, 0) = FULL
            barrel(0, 1) = FULL
            barrel(1, 0) = FULL
            barrel(0, 2) = FULL
            barrel(2, 0) = FULL
            barrel(-1, 0) = BAD
            barrel(0, 8) = BAD
            """);
    }

    private static void notches(Edges e, int promise, String call) {
        e.promise(promise, "SIZE: no bytes, more than 24, or one that is not 1 .. 24.", """
            row(0, 0)
            made(0) = SIZE
            fill(0, 1, 5)
            made(0) = 0
            fill(0, 23, 5)
            made(0) = 1
            fill(0, 24, 5)
            made(0) = 2
            fill(0, 25, 5)
            made(0) = SIZE
            fill(0, 48, 5)
            made(0) = SIZE
            told(?, 1) = 1 23 24 BAD
            count(1) = 3
            """.replace("made", call));
        for (String where : new String[] {"bytes(0, v)", "bytes(0, v, 7, 7)", "bytes(0, 7, v, 7)", "bytes(0, 7, 7, v)"}) {
            e.promise(promise, "one that is not 1 .. 24", strokes(where, "made(0)").replace("made", call));
        }
        e.promise(promise, "ROWS 0 .. 7", """
            bytes(0, 5, 6)
            bytes(7, 8)
            made(min) = BAD
            made(-1) = BAD
            made(8) = BAD
            made(max) = BAD
            made(3) = NOTHING
            made(0) = 0
            made(7) = 1
            made(0) = 2
            tear(0) = 1
            made(0) = NOTHING
            row(7, 0) = 0
            notch(0, ?) = 5 6 BEYOND
            notch(1, ?) = 8 BEYOND
            """.replace("made", call));
    }

    /** Strokes that there are, and that there are not, at a place of ROW 0. */
    private static String strokes(String where, String call) {
        int[] wrong = {0, 25, 26, 127, -1, -24, -128};
        StringBuilder lines = new StringBuilder();
        for (int v : wrong) {
            lines.append(where.replace("v", "" + v)).append("\n").append(call).append(" = SIZE\n");
        }
        int number = 0;
        for (int v : new int[] {1, 2, 23, 24}) {
            lines.append(where.replace("v", "" + v)).append("\n").append(call).append(" = " + number + "\n");
            number++;
        }
        return lines.toString();
    }

    private static void barrel(Edges e) {
        e.promise(9, "SIZE: as a PLATE", """
            bytes(1, 1, 2)
            row(0, 0)
            barrel(0, 1) = SIZE
            fill(0, 1, 24)
            barrel(0, 1) = 0
            fill(0, 24, 24)
            barrel(0, 1) = 1
            fill(0, 25, 24)
            barrel(0, 1) = SIZE
            told(?, 1) = 1 24 BAD
            """);
        for (String where : new String[] {"bytes(0, v)", "bytes(0, v, 7, 7)", "bytes(0, 7, 7, v)"}) {
            e.promise(9, "SIZE: as a PLATE", "bytes(1, 1, 2)\n" + strokes(where, "barrel(0, 1)"));
        }
        e.promise(9, "or no PINS", """
            bytes(0, 5)
            row(1, 0)
            barrel(0, 1) = SIZE
            row(1, 1)
            barrel(0, 1) = 0
            row(1, 47)
            barrel(0, 1) = 1
            row(1, 48)
            barrel(0, 1) = 2
            count(1) = 3
            """);
        e.promise(9, "BAD; FULL; NOTHING: either; SIZE: as a PLATE, or no PINS.", """
            bytes(0, 5)
            bytes(7, 6)
            row(1, 0)
            barrel(-1, 0) = BAD
            barrel(8, 0) = BAD
            barrel(0, -1) = BAD
            barrel(0, 8) = BAD
            barrel(min, max) = BAD
            barrel(2, 8) = BAD
            barrel(-1, 2) = BAD
            barrel(1, 8) = BAD
            barrel(2, 0) = NOTHING
            barrel(0, 2) = NOTHING
            barrel(2, 3) = NOTHING
            barrel(1, 2) = NOTHING
            barrel(2, 1) = NOTHING
            barrel(1, 0) = SIZE
            barrel(0, 1) = SIZE
            barrel(1, 1) = SIZE
            barrel(0, 7) = 0
            barrel(7, 0) = 1
            barrel(0, 0) = 2
            """);
    }

    private static void pins(Edges e) {
        e.promise(9, "which of 8 hammers each lifts (bits 0 .. 255), and stands at one of them (0 at first)", """
            tower(0)
            bytes(0, 1)
            bytes(1, 1, 127, -128, -1, 0)
            barrel(0, 1) = 0
            hang(0, 0, false)
            mark(0, 3) = 0
            letOff(0, false) = 1
            runOut(0, false) = 1
            log(0, 0, ?) = 0 0 1 1
            mark(0, 3) = 1
            letOff(0, false) = 1
            runOut(0, false) = 1
            log(0, 0, 3) = 127
            letOff(0, false) = 1
            runOut(0, false) = 1
            log(0, 0, 3) = 128
            letOff(0, false) = 1
            runOut(0, false) = 1
            log(0, 0, 3) = 255
            mark(0, 3) = 4
            letOff(0, false) = 1
            runOut(0, false) = 1
            log(0, 4, 0) = NONE
            mark(0, 3) = 0
            letOff(0, false) = 1
            runOut(0, false) = 1
            log(0, 0, 3) = 1
            log(0, 4, 0) = 0
            """);
        e.promise(9, "it stands at the next PIN, round", """
            tower(0)
            bytes(0, 24)
            bytes(1, 3)
            row(2, 48)
            lay(2, 0, 1)
            lay(2, 47, 2)
            barrel(0, 1) = 0
            barrel(0, 2) = 1
            hang(0, 0, false)
            hang(0, 1, true)
            letOff(0, false) = 24
            runOut(0, false) = 24
            mark(0, 3) = 0
            log(0, 0, ?) = 0 0 24 3
            letOff(0, true) = 24
            runOut(0, true) = 24
            mark(1, 3) = 24
            log(0, 0, ?) = 0 1 1 1
            letOff(0, true) = 24
            runOut(0, true) = 24
            mark(1, 3) = 0
            log(0, 0, ?) = 0 1 1 2
            """);
    }

    private static void gear(Edges e) {
        e.promise(10, "a PACE (1 .. 60 strokes a minute", EACH_KIND + """
            gear(0, min, 7) = BAD
            gear(0, -1, 7) = BAD
            gear(0, 0, 7) = BAD
            told(0, 3) = 30
            gear(0, 1, 7) = 1000
            told(0, 3) = 1
            gear(0, 2, 7) = 7
            gear(0, 59, 7) = 7
            gear(0, 60, 7) = 7
            told(0, 3) = 60
            gear(0, 61, 8) = BAD
            gear(0, max, 8) = BAD
            told(0, 3) = 60
            told(0, 4) = 7
            """);
        e.promise(10, "a WEIGHT that is WOUND to FALL (0 .. 100000", EACH_KIND + """
            gear(1, 5, min) = BAD
            gear(1, 5, -1) = BAD
            told(1, 4) = 1000
            gear(1, 5, 0) = 1000
            told(1, 4) = 0
            gear(1, 5, 1) = 0
            gear(1, 5, 99999) = 1
            gear(1, 5, 100000) = 99999
            told(1, 4) = 100000
            gear(1, 6, 100001) = BAD
            gear(1, 6, max) = BAD
            told(1, 3) = 5
            wind(1) = 0
            """);
        e.promise(10, "A TRAIN's PACE and FALL; it is WOUND: what its WEIGHT was. BAD.", EACH_KIND + """
            gear(-1, 5, 5) = BAD
            gear(4, 5, 5) = BAD
            gear(min, 5, 5) = BAD
            gear(max, 5, 5) = BAD
            gear(3, 5, 20) = 1000
            hang(0, 3, false)
            letOff(0, false) = 2
            runOut(0, false) = 2
            gear(3, 6, 10) = 18
            told(3, ?) = 3 3 1 6 10 0 0 2
            letOff(0, false) = 9
            gear(3, 6, 5) = 10
            told(3, 5) = 9
            runOut(0, false) = 5
            wind(3) = 5
            gear(0, 1, 0) = 1000
            """);
    }

    private static void wind(Edges e) {
        e.promise(11, "A TRAIN is WOUND: how much its WEIGHT is more. BAD.", EACH_KIND + """
            wind(min) = BAD
            wind(-1) = BAD
            wind(0) = 0
            wind(3) = 0
            wind(4) = BAD
            wind(max) = BAD
            hang(0, 1, false)
            letOff(0, false) = 2
            runOut(0, false) = 2
            told(1, 4) = 998
            wind(1) = 2
            told(1, 4) = 1000
            wind(1) = 0
            gear(1, 30, 0) = 1000
            wind(1) = 0
            gear(1, 30, 1) = 0
            letOff(0, false) = 9
            runOut(0, false) = 1
            told(1, 4) = 0
            wind(1) = 1
            runOut(0, false) = 1
            told(1, 5) = 7
            """);
    }

    private static void broken(Edges e) {
        e.promise(12, "bits 0 .. 255", EACH_KIND + """
            broken(3, min) = BAD
            broken(3, -1) = BAD
            broken(3, 0) = 0
            broken(3, 1) = 0
            broken(3, 254) = 1
            broken(3, 255) = 254
            broken(3, 256) = BAD
            broken(3, max) = BAD
            broken(3, 0) = 255
            broken(-1, 0) = BAD
            broken(4, 0) = BAD
            broken(0, 255) = 0
            broken(0, 256) = BAD
            broken(0, -1) = BAD
            broken(0, 0) = 255
            """);
        e.promise(12, "A TRAIN's hammers that are BROKEN: what they were.", EACH_KIND + """
            broken(1, 1) = 0
            gear(1, 5, 50) = 1000
            wind(1) = 0
            hang(0, 1, false)
            cut(1, 0, 3) = 2
            put(1, 2) = 0
            letOff(0, false) = 4
            runOut(0, false) = 4
            unhang(0, false) = 1
            broken(1, 0) = 1
            broken(?, 0) = 0 0 0 0
            """);
        for (int train = 0; train < 3; train++) {
            e.promise(12, "bit 0 is the one of all that are no BARRELS", EACH_KIND + """
                hang(0, n, false)
                broken(n, 254) = 0
                letOff(0, false)
                runOut(0, false)
                log(0, 0, 3) = 1
                broken(n, 1) = 254
                letOff(0, false)
                runOut(0, false)
                log(0, 1, 3) = NONE
                broken(n, 0) = 1
                letOff(0, false)
                runOut(0, false)
                log(0, 1, 3) = 1
                """.replaceAll("\\bn\\b", "" + train));
        }
        e.promise(12, "HEARD is a stroke if one of its hammers is not BROKEN", EACH_KIND + """
            hang(0, 3, false)
            broken(3, 3) = 0
            letOff(0, false) = 2
            runOut(0, false) = 2
            log(0, 0, ?) = 0 3 1 252
            put(3, 0)
            broken(3, 255) = 3
            letOff(0, false) = 2
            runOut(0, false) = 2
            log(0, 1, 0) = NONE
            put(3, 0)
            broken(3, 1) = 255
            letOff(0, false) = 2
            runOut(0, false) = 2
            log(0, 0, ?) = 0 3 2 254
            told(3, 7) = 6
            """);
    }

    private static void told(Edges e) {
        e.promise(13, "1 how many NOTCHES or STEPS (0: KIND 0), 2 at which NOTCH it stands (NONE),", EACH_KIND + """
            told(?, 0) = 0 1 2 3 BAD
            told(?, 1) = 0 3 3 3 BAD
            told(?, 2) = NONE 0 NONE 0 BAD
            put(1, 2)
            put(3, 1)
            told(?, 2) = NONE 2 NONE 1 BAD
            told(?, 6) = NONE NONE NONE NONE BAD
            """);
        e.promise(13, "7 strokes that were struck ever. BAD.", EACH_KIND + """
            hang(0, 2, true)
            letOff(0, true) = 2
            told(2, -1) = BAD
            told(2, ?) = 2 3 NONE 30 1000 2 0 0 BAD
            told(2, min) = BAD
            told(2, max) = BAD
            runOut(0, true) = 2
            wind(2) = 2
            told(2, ?) = 2 3 NONE 30 1000 0 0 2 BAD
            told(-1, 0) = BAD
            told(4, 0) = BAD
            told(min, 0) = BAD
            told(max, 7) = BAD
            told(4, 8) = BAD
            """);
    }

    private static void mark(Edges e) {
        e.promise(14, "BAD: also KIND 0; UNLIKE.", EACH_KIND + """
            mark(0, min) = BAD
            mark(0, -1) = BAD
            mark(0, ?) = BAD UNLIKE UNLIKE UNLIKE BAD
            mark(1, -1) = BAD
            mark(1, ?) = BAD 15 UNLIKE UNLIKE BAD
            mark(2, -1) = BAD
            mark(2, ?) = BAD UNLIKE 9 UNLIKE BAD
            mark(3, -1) = BAD
            mark(3, ?) = BAD 15 UNLIKE 0 BAD
            mark(3, max) = BAD
            mark(-1, 1) = BAD
            mark(4, 1) = BAD
            mark(4, 0) = BAD
            """);
        e.promise(14, "the strokes of all its NOTCHES together, a SNAIL the greatest of its STEPS", """
            fill(0, 24, 24)
            fill(1, 1, 1)
            plate(0) = 0
            plate(1) = 1
            snail(0) = 2
            snail(1) = 3
            mark(0, 1) = 576
            mark(1, 1) = 1
            mark(2, 2) = 24
            mark(3, 2) = 1
            cut(0, 0, 1)
            cut(0, 23, 2)
            mark(0, 1) = 531
            bytes(2, 5, 4, 3)
            bytes(3, 3, 4, 5)
            bytes(4, 3, 5, 4)
            snail(2) = 4
            snail(3) = 5
            snail(4) = 6
            mark(4, 2) = 5
            mark(5, 2) = 5
            mark(6, 2) = 5
            """);
    }

    private static void notch(Edges e) {
        for (int train = 1; train <= 3; train++) {
            e.promise(15, "Strokes of a NOTCH (STEP). BAD; UNLIKE: KIND 0; BEYOND.", EACH_KIND + """
                notch(n, min) = BEYOND
                notch(n, -1) = BEYOND
                notch(n, ?) = 2 9 4 BEYOND BEYOND
                notch(n, max) = BEYOND
                """.replaceAll("\\bn\\b", "" + train));
        }
        e.promise(15, "Strokes of a NOTCH (STEP). BAD; UNLIKE: KIND 0; BEYOND.", EACH_KIND + """
            notch(-1, 0) = BAD
            notch(4, 0) = BAD
            notch(4, 9) = BAD
            notch(0, -1) = UNLIKE
            notch(0, 0) = UNLIKE
            notch(0, 9) = UNLIKE
            fill(0, 24, 6)
            plate(0) = 4
            notch(4, 23) = 6
            notch(4, 24) = BEYOND
            fill(0, 1, 7)
            snail(0) = 5
            notch(5, 0) = 7
            notch(5, 1) = BEYOND
            """);
    }

    private static void cut(Edges e) {
        for (int train = 1; train <= 3; train++) {
            e.promise(16, "Strokes of a NOTCH (STEP) become v (1 .. 24; a pin was bent): what they were.", EACH_KIND + """
                cut(n, 0, min) = BAD
                cut(n, 0, -1) = BAD
                cut(n, 0, 0) = BAD
                cut(n, 0, 1) = 2
                cut(n, 0, 2) = 1
                cut(n, 0, 23) = 2
                cut(n, 0, 24) = 23
                cut(n, 0, 25) = BAD
                cut(n, 0, max) = BAD
                cut(n, -1, 5) = BEYOND
                cut(n, 2, 5) = 4
                cut(n, 3, 5) = BEYOND
                cut(n, max, 5) = BEYOND
                cut(n, min, 5) = BEYOND
                cut(n, 3, 0) = BAD
                cut(n, -1, 25) = BAD
                notch(n, ?) = 24 9 5 BEYOND
                """.replaceAll("\\bn\\b", "" + train));
        }
        e.promise(16, "BAD: also v; UNLIKE; BEYOND.", EACH_KIND + """
            cut(-1, 0, 5) = BAD
            cut(4, 0, 5) = BAD
            cut(0, 0, 0) = BAD
            cut(0, 0, 25) = BAD
            cut(0, 0, 5) = UNLIKE
            cut(0, -1, 5) = UNLIKE
            cut(0, 9, 5) = UNLIKE
            hang(0, 1, false)
            letOff(0, false) = 2
            cut(1, 0, 7) = 2
            cut(1, 1, 10) = 9
            told(1, 5) = 2
            letOff(0, false) = 12
            """);
    }

    private static void put(Edges e) {
        for (int train = 1; train <= 3; train += 2) {
            e.promise(17, "A PLATE (BARREL) is put to a NOTCH by hand: at which it stood.", EACH_KIND + """
                put(n, min) = BEYOND
                put(n, -1) = BEYOND
                put(n, 2) = 0
                put(n, 3) = BEYOND
                put(n, max) = BEYOND
                put(n, 0) = 2
                put(n, 0) = 0
                put(n, 1) = 0
                told(n, 2) = 1
                """.replaceAll("\\bn\\b", "" + train));
        }
        e.promise(17, "BAD; UNLIKE; BEYOND.", EACH_KIND + """
            put(-1, 0) = BAD
            put(4, 0) = BAD
            put(4, 9) = BAD
            put(0, 0) = UNLIKE
            put(0, -1) = UNLIKE
            put(2, 0) = UNLIKE
            put(2, 2) = UNLIKE
            put(2, 3) = UNLIKE
            hang(0, 3, false)
            letOff(0, false) = 2
            runOut(0, false) = 2
            put(3, 0) = 1
            mark(3, 3) = 2
            told(3, 5) = 0
            fill(0, 1, 7)
            plate(0) = 4
            put(4, 0) = 0
            put(4, 1) = BEYOND
            """);
    }

    private static void mean(Edges e) {
        e.promise(18, "The mean strokes of NOTCHES (STEPS), cut. BAD; NOUGHT: KIND 0.", EACH_KIND + """
            mean(min) = BAD
            mean(-1) = BAD
            mean(?) = NOUGHT 5 5 5 BAD
            mean(max) = BAD
            cut(1, 0, 4) = 2
            mean(1) = 5
            cut(1, 0, 5) = 4
            mean(1) = 6
            cut(2, 0, 1) = 2
            mean(2) = 4
            fill(0, 24, 24)
            plate(0) = 4
            mean(4) = 24
            cut(4, 23, 23) = 24
            mean(4) = 23
            fill(0, 1, 1)
            snail(0) = 5
            mean(5) = 1
            """);
    }
}
