/** Boundaries of promises 53 to 59: what is told of calls, counts, FINDINGS and of all. */
final class TellingEdges {
    private TellingEdges() {
    }

    static void all(Edges e) {
        asked(e);
        fractions(e);
        count(e);
        findings(e);
        digest(e);
        digestOfLog(e);
    }

    private static void asked(Edges e) {
        e.promise(53, "What the latest putRight(), fault(), windy() (0) that was not refused told; 0 before.", """
            asked() = 0
            tower(0)
            bytes(0, 1, 2, 3, 4, 5, 6, 7, 8, 9, 10, 11, 12)
            plate(0) = 0
            hang(0, 0, false)
            putRight(0, 13) = BAD
            fault(1, 1) = NOTHING
            windy(0, 1, 9, 0, 0) = BAD
            asked() = 0
            putRight(0, 6) = 15
            asked() = 5
            putRight(0, 0) = BAD
            putRight(1, 1) = NOTHING
            fault(0, 13) = BAD
            fault(5, 1) = NOTHING
            windy(0, 0, 0, 0, 0) = BAD
            windy(5, 1, 0, 0, 0) = NOTHING
            asked() = 5
            bytes(1, 1, 99, 98, 97)
            fault(1, 1) = 0
            asked() = 3
            windy(0, 1, 4, 7, 8) = 0
            asked() = 7
            windy(0, 1, 0, 0, 0) = 1
            asked() = 7
            misfits(1, 1, 0, 0, 0) = 3
            explained(1, 1) = 0
            due(1, 0, 0, 0, 0) = 1
            asked() = 7
            putRight(0, 1) = 0
            asked() = 0
            windy(0, 1, 4, 7, 8) = 0
            fault(0, 1) = 0
            asked() = 0
            windy(0, 1, 4, 0, 8) = 0
            asked() = 0
            """);
    }

    private static void fractions(Edges e) {
        String sentence = "in lowest terms, the lower number above 0 (0 by 1)";
        String lines = """
            upper() = 0
            lower() = 1
            nearest(1, 1, 1) = NOUGHT
            nearest(0, 1, 1) = BAD
            upper() = 0
            lower() = 1
            wheel(200)
            wheel(6)
            nearest(10000, 1, 1) = 1
            upper() = 100
            lower() = 3
            nearest(1, 10000, 1) = 1
            upper() = 3
            lower() = 100
            nearest(1, 1, 2) = NOUGHT
            nearest(1, 1, 3) = BAD
            upper() = 3
            lower() = 100
            wheel(200)
            wheel(6)
            nearest(10000, 9, 2) = 1
            upper() = 10000
            lower() = 9
            nearest(9, 10000, 2) = 1
            upper() = 9
            lower() = 10000
            nearest(7, 7, 2) = 1
            upper() = 1
            lower() = 1
            train()
            mean(0) = NOUGHT
            upper() = 1
            wheel(199)
            wheel(197)
            nearest(199, 197, 1) = 1
            upper() = 199
            lower() = 197
            """;
        e.promise(54, sentence, lines);
        e.promise(55, sentence, lines);
    }

    private static void count(Edges e) {
        e.promise(56, "0 NOW, 1 TRAINS, 2 TOWERS that are there, 3 WHEELS, 4 ROWS that are there, 5 strokes that were struck ever. BAD.",
            """
            count(min) = BAD
            count(-1) = BAD
            count(?) = 0 0 0 0 0 0 BAD BAD
            count(max) = BAD
            pass(9)
            train()
            train()
            tower(0)
            tower(3)
            tower(0)
            3 * wheel(50)
            row(0, 0)
            row(7, 48)
            row(3, 5)
            row(3, 6)
            tear(3)
            row(2, 1)
            row(1, 1)
            hang(0, 0, true)
            hang(3, 1, false)
            7 * letOff(0, true)
            4 * letOff(3, false)
            count(5) = 0
            runOut(0, true) = 7
            count(?) = 9 2 2 3 4 7 BAD
            silence(3, 0, 23, 0)
            runOut(3, false) = 4
            count(?) = 9 2 2 3 4 11 BAD
            broken(0, 1)
            letOff(0, true)
            pass(1)
            tower(0)
            wind(0)
            count(?) = 10 2 2 3 4 12 BAD
            4 * row(0, -1) = SIZE
            count(?) = 10 2 2 3 4 12 BAD
            """);
    }

    private static void findings(Edges e) {
        String all = """
            finding() = 0
            findings(min) = BAD
            findings(-1) = BAD
            findings(?) = BAD 0 0 0 0 0 BAD BAD
            findings(max) = BAD
            finding() = 0
            tear(0) = NOTHING
            finding() = 1
            findings(?) = BAD 1 0 0 0 0 BAD
            row(0, 0)
            lay(0, 0, 1) = BEYOND
            finding() = 2
            findings(?) = BAD 1 1 0 0 0 BAD
            train() = 0
            mark(0, 1) = UNLIKE
            finding() = 3
            findings(?) = BAD 1 1 1 0 0 BAD
            mean(0) = NOUGHT
            finding() = 4
            findings(?) = BAD 1 1 1 1 0 BAD
            row(1, -1) = SIZE
            finding() = 5
            findings(?) = BAD 1 1 1 1 1 BAD
            row(1, 49) = BAD
            row(1, 48) = 48
            hang(0, 0, false) = NOTHING
            finding() = 1
            findings(?) = BAD 2 1 1 1 1 BAD
            tower(0)
            hang(0, 0, false) = NONE
            hang(0, 0, false) = STATE
            15 * train()
            train() = FULL
            plate(1) = FULL
            told(0, 9) = BAD
            log(0, 0, 0) = NONE
            finding() = 1
            findings(?) = BAD 2 1 1 1 1 BAD
            mean(0) = NOUGHT
            mean(0) = NOUGHT
            findings(4) = 3
            """;
        e.promise(57, "The latest FINDING (0 before any).", all);
        e.promise(58, "How often a FINDING (1 .. 5) was answered. BAD.", all);
    }

    private static long mixed(long h, long... all) {
        for (long v : all) {
            h = 31 * h + v;
        }
        return h;
    }

    private static void digest(Edges e) {
        long none = HammerTowers.NONE;
        long empty = mixed(17, 0, -1, -1, -1, -1, -1, -1, -1, -1, -1, -1, -1, -1);
        e.promise(59, "(none: 0 four times; -1 once for all this: missing); of each ROW its size (-1: missing) and bytes",
            "digest() = " + empty + "\nrow(8, 1) = BAD\ntear(0) = NOTHING\ndigest() = " + empty
            + "\nrow(0, 0)\ndigest() = " + mixed(17, 0, -1, -1, -1, -1, 0, -1, -1, -1, -1, -1, -1, -1)
            + "\nrow(0, 1)\ndigest() = " + mixed(17, 0, -1, -1, -1, -1, 1, 0, -1, -1, -1, -1, -1, -1, -1)
            + "\nlay(0, 0, 255)\ndigest() = " + mixed(17, 0, -1, -1, -1, -1, 1, -1, -1, -1, -1, -1, -1, -1, -1)
            + "\nlay(0, 0, 128)\ndigest() = " + mixed(17, 0, -1, -1, -1, -1, 1, -128, -1, -1, -1, -1, -1, -1, -1)
            + "\ntear(0)\nrow(7, 2)\nlay(7, 1, 127)\ndigest() = "
            + mixed(17, 0, -1, -1, -1, -1, -1, -1, -1, -1, -1, -1, -1, 2, 0, 127)
            + "\ntear(7)\ntower(3)\ndigest() = "
            + mixed(17, 0, -1, -1, -1, 0, 0, 20000, 1, none, none, 0, 0, 0, 0, 0, 0, 0, 0, -1, -1, -1, -1, -1, -1, -1, -1)
            + "\npass(3)\nwheel(50)\ndigest() = "
            + mixed(17, 3, -1, -1, -1, 3, 0, 19997, 1, none, none, 0, 0, 0, 0, 0, 0, 0, 0, -1, -1, -1, -1, -1, -1, -1, -1)
            + "\n");
    }

    private static void digestOfLog(Edges e) {
        long none = HammerTowers.NONE;
        long trains = mixed(17, 2, 0, 0, none, 30, 1000, 0, none, 0, 2, 2, none, 30, 1000, 1, none, 0, 1, 24);
        trains = mixed(trains, 3, 2, 1, 5, 66, 2, 0, 4, 2, 2, 255, 128, 0, 1);
        long tower = mixed(trains, 2, 0, 19998, 1, none, 2, 0, 0, 0, 2, 1, 2, 1, 255, -1, -1, -1);
        long rows = mixed(tower, -1, -1, -1, -1, -1, -1, -1, -1);
        e.promise(59, "how many entries its LOG has, and of the latest NOW, TRAIN, strokes, hammers", """
            train() = 0
            bytes(0, 1, 24)
            snail(0) = 1
            bytes(0, 2, 2)
            bytes(1, 255, 128, 0)
            barrel(0, 1) = 2
            tear(0)
            tear(1)
            tower(0)
            hang(0, 1, true)
            hands(0, 15)
            letOff(0, true) = 1
            hands(0, 0)
            hang(0, 2, true) = 1
            gear(2, 5, 70)
            letOff(0, true) = 2
            pass(1)
            letOff(0, true) = 2
            pass(1)
            letOff(0, true) = 2
            digest() = sum
            """.replace("sum", "" + rows));
    }
}
