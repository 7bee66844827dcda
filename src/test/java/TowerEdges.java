/** Boundaries of promises 19 to 28, 32, 35 and 36: TOWERS, their HANDS and how they go. */
final class TowerEdges {
    private TowerEdges() {
    }

    static void all(Edges e) {
        tower(e);
        towerWithoutSilence(e);
        hang(e);
        unhang(e);
        hands(e);
        sumStays(e);
        forward(e);
        warned(e);
        letOffBySteps(e);
        hourBesideQuarters(e);
        lockedSteps(e);
        toldSteps(e);
        back(e);
        rate(e);
        go(e);
        windGoing(e);
        silence(e);
        tells(e);
        ahead(e);
        meet(e);
        meetRefused(e);
    }

    private static void tower(Edges e) {
        e.promise(19, "TOWERS 0 .. 3 (missing at first)", """
            tower(min) = BAD
            tower(-1) = BAD
            tower(0) = 0
            tower(3) = 0
            tower(4) = BAD
            tower(max) = BAD
            tower(0) = 1
            tower(3) = 1
            tells(?, 0) = 0 NOTHING NOTHING 0 BAD
            count(2) = 2
            """);
        e.promise(19, "HANDS at a minute of the day (0 .. 1439; 0 at first), a RATE", """
            tower(2) = 0
            tells(2, ?) = 0 0 20000 1 NONE NONE 0 0 0
            rate(2, 0) = 0
            log(2, 0, 0) = NONE
            """);
        e.promise(19, "A TOWER is there (anew: as at first, its TRAINS free, its LOG empty): 1 if it was there, else 0.", """
            tower(2) = 0
            train() = 0
            train() = 1
            hang(2, 0, false)
            hang(2, 1, true)
            hands(2, 50)
            rate(2, 100)
            letOff(2, false) = 1
            letOff(2, true) = 1
            runOut(2, false) = 1
            pass(5) = 5
            silence(2, 0, 23, 1)
            go(2, false)
            tells(2, ?) = 55 500 19995 0 0 1 0 1 2
            log(2, 1, 0) = 0
            tower(2) = 1
            tells(2, ?) = 0 0 20000 1 NONE NONE 0 0 0
            log(2, 0, 0) = NONE
            heard(2, 0, max) = 0
            rate(2, 0) = 0
            told(0, 6) = NONE
            told(1, 6) = NONE
            hands(2, 600)
            tells(2, 8) = 0
            tower(3) = 0
            hang(3, 0, true) = NONE
            hang(2, 1, false) = NONE
            """);
    }

    /** Hour by hour, of a TOWER that is new, and of one that is there anew. */
    private static void towerWithoutSilence(Edges e) {
        StringBuilder lines = new StringBuilder();
        for (int was = 0; was < 2; was++) {
            lines.append("tower(1) = ").append(was).append("\n");
            for (int hour = 0; hour < 24; hour++) {
                lines.append("hands(1, ").append(hour * 60 + 30).append(")\ntells(1, 8) = 0\n");
            }
            lines.append("silence(1, 5, 4, ").append(was).append(")\n");
        }
        e.promise(19, "(anew: as at first, its TRAINS free, its LOG empty)", lines.toString());
    }

    private static void hang(Edges e) {
        e.promise(20, "BAD; STATE: the TRAIN has a place; NOTHING. (STATE behind NOTHING.)", """
            tower(0)
            tower(3)
            train() = 0
            train() = 1
            hang(-1, 0, false) = BAD
            hang(4, 0, false) = BAD
            hang(0, -1, false) = BAD
            hang(0, 2, false) = BAD
            hang(1, 2, true) = BAD
            hang(min, max, true) = BAD
            hang(1, 0, false) = NOTHING
            hang(2, 1, true) = NOTHING
            hang(0, 0, false) = NONE
            hang(0, 0, false) = STATE
            hang(0, 0, true) = STATE
            hang(3, 0, false) = STATE
            hang(3, 0, true) = STATE
            hang(1, 0, false) = NOTHING
            hang(4, 0, false) = BAD
            hang(0, 1, true) = NONE
            hang(0, 1, false) = STATE
            hang(3, 1, false) = STATE
            tells(0, 4) = 0
            tells(0, 5) = 1
            tells(3, 4) = NONE
            """);
        e.promise(20, "that which was there is free", """
            tower(0)
            tower(1)
            3 * train()
            hang(0, 0, false) = NONE
            hang(0, 1, false) = 0
            told(?, 6) = NONE 0 NONE BAD
            hang(0, 2, true) = NONE
            hang(1, 0, true) = NONE
            told(?, 6) = 1 0 0 BAD
            unhang(1, true) = 0
            hang(0, 0, true) = 2
            told(?, 6) = 0 0 NONE BAD
            tells(0, 4) = 1
            tells(0, 5) = 0
            """);
        e.promise(20, "it is not WARNED, nothing is DUE: its number as it was there (NONE).", """
            tower(0)
            tower(1)
            bytes(0, 5, 6)
            plate(0) = 0
            train() = 1
            hang(0, 0, false)
            forward(0, 55)
            letOff(0, false) = 5
            tells(0, 6) = 1
            hang(0, 1, false) = 0
            tells(0, 6) = 0
            told(0, 5) = 5
            hang(1, 0, false) = NONE
            told(0, 5) = 0
            told(0, 2) = 1
            tells(1, 6) = 0
            forward(1, 55) = 55
            unhang(1, false) = 0
            hang(1, 0, false) = NONE
            tells(1, 6) = 0
            forward(1, 5) = 60
            told(0, 5) = 0
            """);
    }

    private static void unhang(Edges e) {
        e.promise(21, "BAD; NOTHING: the TOWER, none is there.", """
            tower(0)
            tower(3)
            train() = 0
            train() = 1
            unhang(-1, false) = BAD
            unhang(4, true) = BAD
            unhang(min, true) = BAD
            unhang(max, false) = BAD
            unhang(1, false) = NOTHING
            unhang(2, true) = NOTHING
            unhang(0, false) = NOTHING
            unhang(0, true) = NOTHING
            hang(0, 0, false)
            unhang(0, true) = NOTHING
            hang(3, 1, true)
            unhang(3, false) = NOTHING
            unhang(0, false) = 0
            unhang(0, false) = NOTHING
            unhang(3, true) = 1
            unhang(3, true) = NOTHING
            told(?, 6) = NONE NONE BAD
            """);
    }

    private static void hands(Edges e) {
        e.promise(22, "HANDS at a minute of the day (0 .. 1439", """
            tower(0)
            tower(3)
            hands(0, min) = BAD
            hands(0, -1) = BAD
            hands(0, 1) = 0
            hands(0, 0) = 1
            hands(0, 1438) = 0
            hands(0, 1439) = 1438
            hands(0, 1440) = BAD
            hands(0, max) = BAD
            tells(0, 0) = 1439
            hands(-1, 5) = BAD
            hands(3, 5) = 0
            hands(4, 5) = BAD
            hands(1, 5) = NOTHING
            hands(2, 0) = NOTHING
            hands(1, -1) = BAD
            hands(1, 1440) = BAD
            """);
        for (int minute : new int[] {10, 15, 55, 0}) {
            e.promise(22, "HANDS are put to a minute of the day, and nothing else", """
                tower(0)
                train() = 0
                train() = 1
                hang(0, 0, false)
                hands(0, 54)
                forward(0, 1) = 55
                hang(0, 1, true)
                hands(0, 9)
                forward(0, 1) = 10
                hands(0, m) = 10
                tells(0, 6) = 1
                tells(0, 7) = 1
                told(?, 5) = 0 0 BAD
                tower(0) = 1
                hang(0, 0, true)
                hands(0, m) = 0
                tells(0, 7) = 0
                tells(0, 1) = 0
                tells(0, 2) = 20000
                """.replaceAll("\\bm\\b", "" + minute));
        }
    }

    /** What moves or stops the HANDS leaves SUM, RATE and GOING WEIGHT. */
    private static void sumStays(Edges e) {
        String sum = """
            tower(0)
            rate(0, 700)
            pass(2) = 2
            tells(0, ?) = 2 1400 19998 1
            """;
        e.promise(22, "HANDS are put to a minute of the day, and nothing else: where they were.", sum + """
            hands(0, 1439) = 2
            tells(0, ?) = 1439 1400 19998 1
            rate(0, 0) = 700
            """);
        e.promise(23, "(no time goes by, no TRAIN RUNS): where they are.", sum + """
            forward(0, 1500) = 62
            tells(0, ?) = 62 1400 19998 1
            rate(0, 0) = 700
            """);
        e.promise(24, "nothing else comes of it", sum + """
            back(0, 3) = 1439
            tells(0, ?) = 1439 1400 19998 1
            rate(0, 0) = 700
            """);
        e.promise(25, "RATE of a TOWER: what it was.", sum + """
            rate(0, -700) = 700
            tells(0, ?) = 2 1400 19998 1
            pass(2) = 4
            tells(0, ?) = 4 0 19996 1
            """);
        e.promise(26, "A TOWER GOES, or is STOPPED: 1 if it went.", sum + """
            go(0, false) = 1
            pass(5) = 7
            tells(0, ?) = 2 1400 19998 0
            go(0, true) = 0
            tells(0, ?) = 2 1400 19998 1
            rate(0, 0) = 700
            """);
        e.promise(27, "The GOING WEIGHT's FALL is n; it is WOUND: what it had been.", sum + """
            windGoing(0, 5) = 19998
            tells(0, ?) = 2 1400 5 1
            rate(0, 0) = 700
            """);
    }

    private static void forward(Edges e) {
        e.promise(23, "HANDS STEP forward n minutes (0 .. 1500), one by one (no time goes by, no TRAIN RUNS)", """
            tower(0)
            tower(3)
            forward(0, min) = BAD
            forward(0, -1) = BAD
            forward(0, 0) = 0
            forward(0, 1) = 1
            forward(0, 1499) = 60
            forward(0, 1500) = 120
            forward(0, 1501) = BAD
            forward(0, max) = BAD
            tells(0, 0) = 120
            count(0) = 0
            tells(0, 1) = 0
            tells(0, 2) = 20000
            forward(-1, 1) = BAD
            forward(4, 1) = BAD
            forward(3, 1) = 1
            forward(1, 1) = NOTHING
            forward(2, 0) = NOTHING
            forward(1, -1) = BAD
            forward(1, 1501) = BAD
            """);
        e.promise(23, "HANDS STEP forward by a minute (from 1439 to 0).", """
            tower(0)
            hands(0, 1438)
            forward(0, 1) = 1439
            forward(0, 1) = 0
            forward(0, 1) = 1
            forward(0, 1440) = 1
            hands(0, 1439)
            forward(0, 2) = 1
            """);
        e.promise(23, "(no time goes by, no TRAIN RUNS)", """
            tower(0)
            tower(1)
            train() = 0
            train() = 1
            hang(0, 0, false)
            hang(1, 1, true)
            forward(0, 1440) = 0
            forward(1, 1440) = 0
            told(0, ?) = 0 0 NONE 30 1000 24 0 0
            told(1, ?) = 0 0 NONE 30 1000 96 1 0
            count(5) = 0
            log(0, 0, 0) = NONE
            go(0, false)
            windGoing(0, 0)
            forward(0, 60) = 60
            told(0, 5) = 25
            """);
    }

    private static void warned(Edges e) {
        StringBuilder quarter = new StringBuilder("tower(0)\ntrain() = 0\nhang(0, 0, true)\n");
        StringBuilder hour = new StringBuilder("tower(0)\ntrain() = 0\nhang(0, 0, false)\n");
        for (int minute = 0; minute < 60; minute++) {
            String put = "hands(0, " + (minute + 299) + ")\nforward(0, 1) = " + (minute + 300) + "\n";
            boolean due = minute == 10 || minute == 25 || minute == 40 || minute == 55;
            quarter.append(put).append("tells(0, 7) = ").append(due ? 1 : 0).append("\n");
            hour.append(put).append("tells(0, 6) = ").append(minute == 55 ? 1 : 0).append("\n");
            if (due) {
                quarter.append("unhang(0, true) = 0\nhang(0, 0, true)\n");
                hour.append("unhang(0, false) = 0\nhang(0, 0, false)\n");
            }
        }
        e.promise(23, "at minute 10, 25, 40 and 55 of the hour the QUARTER TRAIN is WARNED", quarter.toString());
        e.promise(23, "at 55 the HOUR TRAIN, if there is no QUARTER TRAIN.", hour.toString());
    }

    private static void letOffBySteps(Edges e) {
        StringBuilder quarter = new StringBuilder("tower(0)\ntrain() = 0\nhang(0, 0, true)\nforward(0, 10)\n");
        StringBuilder hour = new StringBuilder("tower(0)\ntrain() = 0\nhang(0, 0, false)\nforward(0, 55)\n");
        int quarters = 0;
        for (int minute = 0; minute < 60; minute++) {
            String put = "hands(0, " + (minute + 299) + ")\nforward(0, 1) = " + (minute + 300) + "\n";
            if (minute % 15 == 0) {
                quarters++;
            }
            quarter.append(put).append("told(0, 5) = ").append(quarters).append("\n");
            quarter.append("tells(0, 7) = ").append(minute % 15 == 0 ? 0 : 1).append("\n");
            hour.append(put).append("told(0, 5) = 1\n");
            hour.append("tells(0, 6) = ").append(minute >= 55 ? 1 : 0).append("\n");
            if (minute % 15 == 0) {
                quarter.append("hands(0, 9)\nforward(0, 1) = 10\n");
            }
        }
        e.promise(23, "At minute 15, 30, 45 and 0 the QUARTER TRAIN", quarter.toString());
        e.promise(23, "at 0 the HOUR TRAIN (if there is no QUARTER TRAIN), is LET OFF", hour.toString());
        e.promise(23, "is LET OFF, if it is WARNED, and is WARNED no more", """
            tower(0)
            train() = 0
            hang(0, 0, true)
            hands(0, 14)
            forward(0, 1) = 15
            told(0, 5) = 0
            hands(0, 9)
            forward(0, 1) = 10
            forward(0, 4) = 14
            tells(0, 7) = 1
            told(0, 5) = 0
            forward(0, 1) = 15
            tells(0, 7) = 0
            told(0, 5) = 1
            hands(0, 14)
            forward(0, 1) = 15
            told(0, 5) = 1
            """);
    }

    private static void hourBesideQuarters(Edges e) {
        e.promise(23, "at 0 the HOUR TRAIN (if there is no QUARTER TRAIN)", """
            tower(0)
            train() = 0
            train() = 1
            hang(0, 0, false)
            hands(0, 54)
            forward(0, 1) = 55
            hang(0, 1, true)
            forward(0, 5) = 60
            told(0, 5) = 0
            tells(0, 6) = 1
            forward(0, 60) = 120
            told(?, 5) = 0 4
            tells(0, 6) = 1
            unhang(0, true) = 1
            hands(0, 59)
            forward(0, 1) = 60
            told(0, 5) = 1
            tells(0, 6) = 0
            hang(0, 1, true)
            forward(0, 60) = 120
            tells(0, 6) = 0
            """);
    }

    private static void lockedSteps(Edges e) {
        for (String place : new String[] {"false", "true"}) {
            String warned = place.equals("true") ? "tells(0, 7)" : "tells(0, 6)";
            e.promise(23, "no TRAIN is LET OFF (it stays WARNED)", """
                tower(0)
                train() = 0
                hang(0, 0, place)
                silence(0, 0, 2, 1)
                forward(0, 54) = 54
                forward(0, 1) = 55
                warned = 1
                forward(0, 5) = 60
                warned = 1
                told(0, 5) = 0
                forward(0, 59) = 119
                told(0, 5) = 0
                forward(0, 1) = 120
                warned = 0
                told(0, 5) = 1
                back(0, 70) = 50
                forward(0, 10) = 60
                warned = 1
                told(0, 5) = 1
                silence(0, 1, 1, 1)
                told(0, 5) = 1
                forward(0, 60) = 120
                warned = 0
                """.replace("place", place).replace("warned", warned));
        }
    }

    /** SNAILS, whose STEPS show by how many are DUE; those of the HOUR TRAIN tell their number. */
    private static void toldSteps(Edges e) {
        for (int steps : new int[] {1, 5, 11, 12, 13, 24}) {
            StringBuilder lines = new StringBuilder("row(0, " + steps + ")\n");
            for (int i = 0; i < steps; i++) {
                lines.append("lay(0, ").append(i).append(", ").append(i + 1).append(")\n");
            }
            lines.append("snail(0) = 0\ntower(0)\nhang(0, 0, false)\n");
            for (int hour = 0; hour < 24; hour++) {
                int h = hour % 12 == 0 ? 12 : hour % 12;
                lines.append("hands(0, ").append((hour * 60 + 1434) % 1440).append(")\n");
                lines.append("forward(0, 6) = ").append(hour * 60).append("\n");
                lines.append("told(0, 5) = ").append((h - 1) % steps + 1).append("\n");
            }
            e.promise(23, "of the HOUR TRAIN h less 1, modulo its STEPS, h being the hour of the HANDS (1 .. 12)",
                lines.toString());
        }
        for (int steps : new int[] {1, 2, 3, 4, 5, 24}) {
            StringBuilder lines = new StringBuilder("row(0, " + steps + ")\n");
            for (int i = 0; i < steps; i++) {
                lines.append("lay(0, ").append(i).append(", ").append(24 - i).append(")\n");
            }
            lines.append("snail(0) = 0\ntower(0)\nhang(0, 0, true)\nhands(0, 1430)\n");
            for (int q = 4; q < 13; q++) {
                lines.append("forward(0, ").append(q == 4 ? 10 : 15).append(") = ").append(q * 15 - 60).append("\n");
                lines.append("told(0, 5) = ").append(24 - (q - 1) % 4 % steps).append("\n");
            }
            e.promise(23, "q being 1, 2, 3 at minutes 15, 30, 45, and 4 at 0", lines.toString());
        }
    }

    private static void back(Edges e) {
        e.promise(24, "HANDS STEP back n minutes (0 .. 1500): where they are. BAD; NOTHING.", """
            tower(0)
            tower(3)
            hands(0, 1439)
            back(0, min) = BAD
            back(0, -1) = BAD
            back(0, 0) = 1439
            back(0, 1) = 1438
            back(0, 1440) = 1438
            back(0, 1499) = 1379
            back(0, 1500) = 1319
            back(0, 1501) = BAD
            back(0, max) = BAD
            tells(0, 0) = 1319
            back(-1, 1) = BAD
            back(4, 1) = BAD
            back(3, 1) = 1439
            back(1, 1) = NOTHING
            back(2, 0) = NOTHING
            back(1, -1) = BAD
            back(1, 1501) = BAD
            """);
        e.promise(24, "HANDS STEP back by a minute (from 0 to 1439): nothing else comes of it.", """
            tower(0)
            train() = 0
            train() = 1
            hang(0, 1, false)
            hands(0, 1)
            back(0, 1) = 0
            back(0, 1) = 1439
            back(0, 1) = 1438
            back(0, 1500) = 1378
            tells(0, 6) = 0
            hands(0, 54)
            forward(0, 1) = 55
            hands(0, 61)
            back(0, 1) = 60
            back(0, 1) = 59
            tells(0, 6) = 1
            told(1, 5) = 0
            hang(0, 0, true)
            hands(0, 56)
            back(0, 50) = 6
            tells(0, 7) = 0
            forward(0, 4) = 10
            hands(0, 16)
            back(0, 1) = 15
            tells(0, 7) = 1
            told(0, 5) = 0
            count(0) = 0
            """);
    }

    private static void rate(Edges e) {
        e.promise(25, "a RATE (how many seconds a day they gain, -3600 .. 3600; 0 at first)", """
            tower(0)
            tower(3)
            rate(0, min) = BAD
            rate(0, -3601) = BAD
            rate(0, -3600) = 0
            rate(0, -3599) = -3600
            rate(0, -1) = -3599
            rate(0, 0) = -1
            rate(0, 3599) = 0
            rate(0, 3600) = 3599
            rate(0, 3601) = BAD
            rate(0, max) = BAD
            rate(0, 0) = 3600
            rate(-1, 1) = BAD
            rate(4, 1) = BAD
            rate(3, 1) = 0
            rate(1, 1) = NOTHING
            rate(2, 0) = NOTHING
            rate(1, 3601) = BAD
            rate(1, -3601) = BAD
            """);
        e.promise(25, "as long as SUM is 86400 or more and the GOING WEIGHT is above 0, SUM is 86400 less", """
            tower(0)
            rate(0, -1)
            pass(1) = 1
            tells(0, ?) = 0 86399 20000 1
            pass(1) = 2
            tells(0, ?) = 1 86398 19999 1
            tower(0) = 1
            pass(1) = 3
            tells(0, ?) = 1 0 19999 1
            rate(0, 1)
            pass(1) = 4
            tells(0, ?) = 2 1 19998 1
            tower(0) = 1
            rate(0, 3600)
            pass(23) = 27
            tells(0, ?) = 23 82800 19977 1
            pass(1) = 28
            tells(0, ?) = 25 0 19975 1
            tower(0) = 1
            rate(0, -3600)
            pass(24) = 52
            tells(0, ?) = 23 0 19977 1
            pass(1) = 53
            tells(0, ?) = 23 82800 19977 1
            """);
    }

    private static void go(Edges e) {
        e.promise(26, "A TOWER GOES, or is STOPPED: 1 if it went. BAD; NOTHING.", """
            tower(0)
            tower(3)
            go(0, true) = 1
            go(0, false) = 1
            go(0, false) = 0
            tells(0, 3) = 0
            pass(10) = 10
            tells(0, ?) = 0 0 20000 0
            tells(3, 0) = 10
            go(0, true) = 0
            go(0, true) = 1
            pass(1) = 11
            tells(0, ?) = 1 0 19999 1
            go(-1, true) = BAD
            go(4, false) = BAD
            go(min, true) = BAD
            go(max, false) = BAD
            go(1, false) = NOTHING
            go(2, true) = NOTHING
            go(3, false) = 1
            """);
        e.promise(26, "Then its QUARTER TRAIN runs, then its HOUR TRAIN.", """
            tower(0)
            bytes(0, 5)
            plate(0) = 0
            plate(0) = 1
            gear(0, 1, 100)
            gear(1, 2, 100)
            hang(0, 0, true)
            hang(0, 1, false)
            letOff(0, true) = 5
            letOff(0, false) = 5
            go(0, false) = 1
            pass(1) = 1
            told(?, 7) = 1 2
            go(0, true) = 0
            windGoing(0, 0) = 20000
            pass(1) = 2
            told(?, 7) = 2 4
            tells(0, 0) = 0
            """);
    }

    private static void windGoing(Edges e) {
        e.promise(27, "a GOING WEIGHT (0 .. 100000 minutes; 20000 at first) WOUND at first", """
            tower(0)
            tower(3)
            windGoing(0, min) = BAD
            windGoing(0, -1) = BAD
            windGoing(0, 0) = 20000
            windGoing(0, 1) = 0
            windGoing(0, 99999) = 1
            windGoing(0, 100000) = 99999
            windGoing(0, 100001) = BAD
            windGoing(0, max) = BAD
            tells(0, 2) = 100000
            pass(3) = 3
            windGoing(0, 7) = 99997
            windGoing(-1, 1) = BAD
            windGoing(4, 1) = BAD
            windGoing(3, 1) = 19997
            windGoing(1, 1) = NOTHING
            windGoing(2, 0) = NOTHING
            windGoing(1, -1) = BAD
            windGoing(1, 100001) = BAD
            """);
        e.promise(27, "if it GOES, and its GOING WEIGHT is above 0, its SUM grows by 86400 and RATE", """
            tower(0)
            rate(0, 7)
            windGoing(0, 2) = 20000
            pass(1) = 1
            tells(0, ?) = 1 7 1 1
            pass(1) = 2
            tells(0, ?) = 2 14 0 1
            pass(1) = 3
            tells(0, ?) = 2 14 0 1
            windGoing(0, 1) = 0
            pass(5) = 8
            tells(0, ?) = 3 21 0 1
            """);
        for (int weight = 23; weight <= 26; weight++) {
            int left = Math.max(weight - 25, 0);
            int hands = weight - left;
            int sum = weight == 23 ? 82800 : weight == 24 ? 86400 : 0;
            e.promise(27, "and the GOING WEIGHT is above 0, SUM is 86400 less, the GOING WEIGHT is 1 less", """
                tower(0)
                rate(0, 3600)
                windGoing(0, weight)
                pass(24) = 24
                tells(0, ?) = hands sum left 1
                """.replace("weight", "" + weight).replace("hands", "" + hands).replace("sum", "" + sum)
                .replace("left", "" + left));
        }
    }

    private static void silence(Edges e) {
        e.promise(28, "from an hour a to an hour b of the HANDS (0 .. 23", """
            tower(0)
            tower(3)
            silence(0, 5, 9, 0) = 1
            silence(0, min, 9, 1) = BAD
            silence(0, -1, 9, 1) = BAD
            silence(0, 24, 9, 1) = BAD
            silence(0, max, 9, 1) = BAD
            silence(0, 5, min, 1) = BAD
            silence(0, 5, -1, 1) = BAD
            silence(0, 5, 24, 1) = BAD
            silence(0, 5, max, 1) = BAD
            silence(0, 5, 10, -1) = BAD
            silence(0, 5, 10, 2) = BAD
            silence(0, 5, 10, max) = BAD
            silence(0, 0, 23, 1) = 1
            silence(0, 23, 0, 0) = 1
            silence(-1, 0, 1, 0) = BAD
            silence(4, 0, 1, 0) = BAD
            silence(3, 0, 1, 1) = 1
            silence(1, 0, 1, 0) = NOTHING
            silence(2, 3, 3, 1) = NOTHING
            silence(1, 24, 1, 0) = BAD
            silence(1, 1, 24, 0) = BAD
            silence(1, 1, 2, 2) = BAD
            """);
        int[][] hours = {{0, 1}, {0, 23}, {23, 0}, {22, 6}, {6, 22}, {1, 0}, {23, 22}, {11, 13}, {0, 0}, {7, 7}, {23, 23}};
        for (int[] pair : hours) {
            StringBuilder lines = new StringBuilder("tower(0)\nsilence(0, " + pair[0] + ", " + pair[1] + ", 1)\n");
            for (int hour = 0; hour < 24; hour++) {
                boolean in = pair[0] <= pair[1]
                    ? hour >= pair[0] && hour < pair[1] : hour >= pair[0] || hour < pair[1];
                lines.append("hands(0, ").append(hour * 60).append(")\n");
                lines.append("tells(0, 8) = ").append(in ? 2 : 0).append("\n");
                lines.append("hands(0, ").append(hour * 60 + 59).append(")\n");
                lines.append("tells(0, 8) = ").append(in ? 2 : 0).append("\n");
            }
            e.promise(28, "from a to b less 1, round; a and b alike: never", lines.toString());
        }
        e.promise(28, "of a sort: 0 MUTE", """
            tower(0)
            silence(0, 3, 4, 0) = 1
            hands(0, 179)
            tells(0, 8) = 0
            hands(0, 180)
            tells(0, 8) = 1
            hands(0, 239)
            tells(0, 8) = 1
            silence(0, 3, 4, 1) = 1
            tells(0, 8) = 2
            hands(0, 240)
            tells(0, 8) = 0
            """);
    }

    private static void tells(Edges e) {
        e.promise(32, "8 whether it is in SILENCE now (1 MUTE, 2 LOCKED, 0). BAD; NOTHING.", """
            tower(0)
            tower(3)
            train() = 0
            train() = 1
            hang(3, 1, false)
            hands(3, 54)
            forward(3, 1)
            hang(3, 0, true)
            tells(3, min) = BAD
            tells(3, -1) = BAD
            tells(3, ?) = 55 0 20000 1 1 0 1 0 0 BAD
            tells(3, max) = BAD
            tells(0, ?) = 0 0 20000 1 NONE NONE 0 0 0 BAD
            unhang(3, false) = 1
            tells(3, ?) = 55 0 20000 1 NONE 0 0 0 0 BAD
            tells(-1, 0) = BAD
            tells(4, 0) = BAD
            tells(1, ?) = NOTHING NOTHING NOTHING NOTHING NOTHING NOTHING NOTHING NOTHING NOTHING BAD
            tells(1, -1) = BAD
            tells(min, 0) = BAD
            """);
    }

    private static void ahead(Edges e) {
        StringBuilder lines = new StringBuilder("tower(0)\ntower(3)\n");
        int[][] cases = {{0, 0, 0}, {1, 0, 1}, {0, 1, -1}, {719, 0, 719}, {720, 0, 720}, {721, 0, -719}, {0, 719, -719},
            {0, 720, 720}, {0, 721, 719}, {1439, 0, -1}, {0, 1439, 1}, {1439, 720, 719}, {1439, 719, 720},
            {1439, 718, -719}, {718, 1439, 719}, {719, 1439, 720}, {720, 1439, -719}};
        for (int[] one : cases) {
            lines.append("hands(0, ").append(one[0]).append(")\nhands(3, ").append(one[1]).append(")\n");
            lines.append("ahead(0, 3) = ").append(one[2]).append("\nahead(0, 0) = 0\n");
        }
        e.promise(35, "By how many minutes the HANDS of a TOWER are ahead of another one's (-719 .. 720).", lines.toString());
        e.promise(35, "BAD; NOTHING: either.", """
            tower(0)
            tower(3)
            ahead(-1, 0) = BAD
            ahead(4, 0) = BAD
            ahead(0, -1) = BAD
            ahead(0, 4) = BAD
            ahead(min, max) = BAD
            ahead(1, 4) = BAD
            ahead(-1, 1) = BAD
            ahead(1, 0) = NOTHING
            ahead(0, 1) = NOTHING
            ahead(1, 2) = NOTHING
            ahead(1, 1) = NOTHING
            ahead(3, 0) = 0
            """);
    }

    private static void meet(Edges e) {
        e.promise(36, "In how many MINUTES the HANDS of two TOWERS that GO tell alike", """
            tower(0)
            tower(3)
            meet(0, 3) = 0
            meet(0, 0) = 0
            rate(0, 3600)
            meet(0, 3) = 0
            hands(3, 1)
            meet(0, 3) = 24
            meet(3, 0) = 24
            rate(0, 3599)
            meet(0, 3) = 25
            rate(3, -3600)
            meet(0, 3) = 13
            rate(0, 3600)
            meet(0, 3) = 12
            hands(3, 1439)
            meet(0, 3) = 17268
            hands(0, 1439)
            meet(0, 3) = 0
            rate(0, -3600)
            meet(0, 3) = 0
            hands(0, 0)
            meet(0, 3) = NONE
            rate(0, -3599)
            meet(0, 3) = 124329600
            rate(0, -3598)
            meet(0, 3) = 62164800
            rate(3, -3599)
            hands(0, 1438)
            meet(3, 0) = 86400
            windGoing(0, 0)
            meet(3, 0) = 86400
            """);
        e.promise(36, "(from HANDS and SUMS as they are; modulo 1440 minutes, to the exact second's part; cut up)", """
            tower(0)
            tower(1)
            rate(0, 1)
            pass(1) = 1
            tells(0, 1) = 1
            meet(0, 1) = 124415999
            meet(1, 0) = 124415999
            rate(1, 1)
            meet(0, 1) = NONE
            rate(1, 2)
            meet(0, 1) = 1
            rate(1, 3)
            meet(0, 1) = 1
            rate(1, 0)
            rate(0, -1)
            meet(0, 1) = 1
            pass(1) = 2
            tells(0, 0) = 2
            meet(0, 1) = 0
            rate(0, 2)
            pass(2) = 4
            rate(0, -3)
            meet(0, 1) = 2
            rate(0, -4)
            meet(0, 1) = 1
            """);
    }

    private static void meetRefused(Edges e) {
        e.promise(36, "BAD; STATE: one is STOPPED; NOTHING. (STATE behind NOTHING.)", """
            tower(0)
            tower(3)
            meet(-1, 0) = BAD
            meet(4, 0) = BAD
            meet(0, -1) = BAD
            meet(0, 4) = BAD
            meet(1, 4) = BAD
            meet(1, 0) = NOTHING
            meet(0, 1) = NOTHING
            meet(1, 2) = NOTHING
            meet(0, 3) = 0
            go(0, false)
            meet(0, 3) = STATE
            meet(3, 0) = STATE
            meet(0, 0) = STATE
            meet(0, 1) = NOTHING
            meet(1, 0) = NOTHING
            meet(0, 4) = BAD
            meet(-1, 0) = BAD
            go(3, false)
            meet(0, 3) = STATE
            go(0, true)
            meet(0, 3) = STATE
            meet(3, 0) = STATE
            meet(0, 0) = 0
            go(3, true)
            meet(0, 3) = 0
            """);
    }
}
