/** Boundaries of promises 29 to 31, 33 and 34: how TRAINS are LET OFF, run, lift and are HEARD. */
final class StrikingEdges {
    private StrikingEdges() {
    }

    static void all(Edges e) {
        letOff(e);
        letOffRefused(e);
        letOffByHands(e);
        letOffSteps(e);
        runOut(e);
        runOutRefused(e);
        lifts(e);
        liftsByOthers(e);
        liftsLocked(e);
        pass(e);
        passToTheEnd(e);
        pace(e);
        weight(e);
        inOneMinute(e);
        locked(e);
        lockedQuarters(e);
        mute(e);
        log(e);
        logSizes(e);
        heard(e);
        heardOfSixty(e);
    }

    private static void letOff(Edges e) {
        e.promise(29, "LET OFF, a TRAIN has strokes DUE: a TRAIN one more", """
            tower(0)
            train() = 0
            hang(0, 0, false)
            told(0, 5) = 0
            letOff(0, false) = 1
            letOff(0, false) = 2
            hands(0, 720)
            letOff(0, false) = 3
            count(5) = 0
            """);
        e.promise(29, "a PLATE those of its NOTCH more (also as it runs still), and stands at the next one, round", """
            tower(0)
            bytes(0, 24, 1, 3)
            plate(0) = 0
            hang(0, 0, false)
            letOff(0, false) = 24
            told(0, 2) = 1
            letOff(0, false) = 25
            told(0, 2) = 2
            letOff(0, false) = 28
            told(0, 2) = 0
            letOff(0, false) = 52
            told(0, 2) = 1
            gear(0, 20, 1000)
            pass(1)
            told(0, 5) = 32
            letOff(0, false) = 33
            fill(0, 1, 7)
            plate(0) = 1
            hang(0, 1, true)
            letOff(0, true) = 7
            told(1, 2) = 0
            letOff(0, true) = 14
            fill(0, 24, 2)
            barrel(0, 0) = 2
            put(2, 23) = 0
            hang(0, 2, true)
            letOff(0, true) = 2
            told(2, 2) = 0
            letOff(0, true) = 4
            told(2, 2) = 1
            mark(2, 3) = 0
            """);
        e.promise(29, "a SNAIL those of a STEP that is told, instead of all that were DUE", """
            tower(0)
            bytes(0, 9, 2)
            snail(0) = 0
            hang(0, 0, false)
            hands(0, 60)
            letOff(0, false) = 9
            letOff(0, false) = 9
            hands(0, 120)
            letOff(0, false) = 2
            gear(0, 1, 100)
            pass(1)
            told(0, 5) = 1
            letOff(0, false) = 2
            hands(0, 60)
            letOff(0, false) = 9
            """);
    }

    private static void letOffRefused(Edges e) {
        e.promise(29, "BAD; NOTHING: the TOWER, none is there.", """
            tower(0)
            tower(3)
            train() = 0
            train() = 1
            hang(0, 0, false)
            hang(3, 1, true)
            letOff(min, false) = BAD
            letOff(-1, false) = BAD
            letOff(4, true) = BAD
            letOff(max, true) = BAD
            letOff(1, false) = NOTHING
            letOff(2, true) = NOTHING
            letOff(0, true) = NOTHING
            letOff(3, false) = NOTHING
            letOff(0, false) = 1
            letOff(3, true) = 1
            unhang(0, false)
            letOff(0, false) = NOTHING
            """);
    }

    private static void letOffByHands(Edges e) {
        e.promise(29, "(also if it is not WARNED, or LOCKED; it stays WARNED, if it was): how many are DUE.", """
            tower(0)
            train() = 0
            train() = 1
            hang(0, 0, false)
            letOff(0, false) = 1
            tells(0, 6) = 0
            hands(0, 54)
            forward(0, 1)
            letOff(0, false) = 2
            tells(0, 6) = 1
            silence(0, 0, 1, 1)
            letOff(0, false) = 3
            tells(0, 6) = 1
            hang(0, 1, true)
            letOff(0, true) = 1
            tells(0, 7) = 0
            hands(0, 9)
            forward(0, 1)
            letOff(0, true) = 2
            tells(0, 7) = 1
            silence(0, 5, 5, 1)
            letOff(0, true) = 3
            tells(0, 7) = 1
            """);
    }

    /** SNAILS, each of whose STEPS strikes another number. */
    private static void letOffSteps(Edges e) {
        for (int steps : new int[] {1, 3, 4, 5, 12, 24}) {
            StringBuilder lines = new StringBuilder("tower(0)\nrow(0, " + steps + ")\n");
            for (int i = 0; i < steps; i++) {
                lines.append("lay(0, ").append(i).append(", ").append(i + 1).append(")\n");
            }
            lines.append("snail(0) = 0\nsnail(0) = 1\nhang(0, 0, false)\nhang(0, 1, true)\n");
            for (int minute = 0; minute < 60; minute++) {
                int q = minute < 15 ? 4 : minute < 30 ? 1 : minute < 45 ? 2 : 3;
                lines.append("hands(0, ").append(minute + 60).append(")\n");
                lines.append("letOff(0, true) = ").append((q - 1) % steps + 1).append("\n");
                lines.append("letOff(0, false) = 1\n");
            }
            for (int hour = 0; hour < 24; hour++) {
                int h = hour == 0 || hour == 12 ? 12 : hour % 12;
                for (int minute = 0; minute < 60; minute += 59) {
                    lines.append("hands(0, ").append(hour * 60 + minute).append(")\n");
                    lines.append("letOff(0, false) = ").append((h - 1) % steps + 1).append("\n");
                }
            }
            e.promise(29, "STEPS by the HANDS (of the QUARTER TRAIN by the quarter that was last: q 4 from minute 0 to 14).",
                lines.toString());
        }
    }

    private static void runOut(Edges e) {
        for (int weight = 0; weight <= 6; weight++) {
            e.promise(30, "What is DUE of a TRAIN of a TOWER is struck at once (PACE aside, WEIGHT not", """
                tower(0)
                bytes(0, 5)
                plate(0) = 0
                hang(0, 0, false)
                runOut(0, false) = 0
                gear(0, 1, weight)
                letOff(0, false) = 5
                runOut(0, false) = done
                told(0, ?) = 1 1 0 1 left still 0 done
                count(5) = done
                heard(0, 0, 0) = done
                runOut(0, false) = 0
                heard(0, 0, 0) = done
                """.replace("weight", "" + weight).replace("done", "" + Math.min(weight, 5))
                .replace("left", "" + Math.max(weight - 5, 0)).replace("still", "" + Math.max(5 - weight, 0)));
        }
        e.promise(30, "HEARD, MUTE, LOG, LIFTS as in a MINUTE", """
            tower(0)
            fill(0, 1, 24)
            plate(0) = 0
            hang(0, 0, true)
            train() = 1
            hang(0, 1, false)
            gear(0, 1, 100000)
            pass(7)
            silence(0, 0, 1, 0)
            letOff(0, true) = 24
            letOff(0, true) = 48
            runOut(0, true) = 48
            log(0, 0, 0) = NONE
            told(1, 5) = 1
            silence(0, 1, 2, 0)
            runOut(0, false) = 1
            log(0, 0, ?) = 7 1 1 1
            letOff(0, true) = 24
            runOut(0, true) = 24
            log(0, 0, ?) = 7 0 24 1
            told(0, 4) = 99928
            count(0) = 7
            """);
    }

    private static void runOutRefused(Edges e) {
        e.promise(30, "how many were struck. BAD; NOTHING.", """
            tower(0)
            tower(3)
            train() = 0
            train() = 1
            hang(0, 0, false)
            hang(3, 1, true)
            letOff(0, false) = 1
            letOff(3, true) = 1
            runOut(min, false) = BAD
            runOut(-1, false) = BAD
            runOut(4, true) = BAD
            runOut(max, true) = BAD
            runOut(1, false) = NOTHING
            runOut(2, true) = NOTHING
            runOut(0, true) = NOTHING
            runOut(3, false) = NOTHING
            runOut(0, false) = 1
            runOut(3, true) = 1
            runOut(0, false) = 0
            """);
    }

    private static void lifts(Edges e) {
        e.promise(30, "of a PLATE (BARREL) from its last NOTCH", """
            tower(0)
            bytes(0, 2, 2, 2)
            plate(0) = 0
            barrel(0, 0) = 1
            bytes(1, 1)
            plate(1) = 2
            train() = 3
            hang(0, 3, false)
            hang(0, 0, true)
            letOff(0, true) = 2
            runOut(0, true) = 2
            letOff(0, true) = 2
            runOut(0, true) = 2
            told(3, 5) = 0
            letOff(0, true) = 2
            told(3, 5) = 0
            runOut(0, true) = 2
            told(3, 5) = 1
            letOff(0, true) = 2
            runOut(0, true) = 2
            told(3, 5) = 1
            hang(0, 1, true) = 0
            put(1, 1)
            letOff(0, true) = 2
            runOut(0, true) = 2
            told(3, 5) = 1
            letOff(0, true) = 2
            put(1, 1)
            runOut(0, true) = 2
            told(3, 5) = 2
            hang(0, 2, true) = 1
            letOff(0, true) = 1
            runOut(0, true) = 1
            told(3, 5) = 3
            runOut(0, true) = 0
            told(3, 5) = 3
            """);
        e.promise(30, "As the last DUE stroke of a QUARTER TRAIN is struck, it LIFTS the HOUR TRAIN, if its last LET OFF was so", """
            tower(0)
            bytes(0, 2, 3)
            plate(0) = 0
            gear(0, 1, 4)
            train() = 1
            hang(0, 0, true)
            hang(0, 1, false)
            letOff(0, true) = 2
            letOff(0, true) = 5
            runOut(0, true) = 4
            told(1, 5) = 0
            wind(0) = 4
            runOut(0, true) = 1
            told(1, 5) = 1
            wind(0) = 1
            put(0, 1)
            letOff(0, true) = 3
            letOff(0, true) = 5
            runOut(0, true) = 4
            wind(0) = 4
            runOut(0, true) = 1
            told(1, 5) = 1
            unhang(0, true)
            unhang(0, false)
            hang(0, 0, false)
            hang(0, 1, true)
            put(0, 1)
            letOff(0, false) = 3
            wind(0) = 1
            runOut(0, false) = 3
            told(1, 5) = 0
            """);
    }

    private static void liftsByOthers(Edges e) {
        for (String kind : new String[] {"train()", "snail(0)"}) {
            StringBuilder lines = new StringBuilder("tower(0)\nbytes(0, 1)\n" + kind + " = 0\nplate(0) = 1\n");
            lines.append("hang(0, 0, true)\nhang(0, 1, false)\n");
            for (int minute = 0; minute < 60; minute++) {
                lines.append("hands(0, ").append(minute + 1380).append(")\nletOff(0, true) = 1\nhands(0, 20)\n");
                lines.append("runOut(0, true) = 1\nrunOut(0, false) = ").append(minute < 15 ? 1 : 0).append("\n");
            }
            e.promise(30, "of others with q 4", lines.toString());
        }
        e.promise(30, "LIFTED, the HOUR TRAIN is LET OFF (also if it is not WARNED; not if it is LOCKED), by the hour of the HANDS then.",
            """
            tower(0)
            bytes(0, 1, 2, 3, 4, 5, 6, 7, 8, 9, 10, 11, 12)
            snail(0) = 0
            train() = 1
            hang(0, 0, false)
            hang(0, 1, true)
            hands(0, 60)
            letOff(0, true) = 1
            hands(0, 779)
            runOut(0, true) = 1
            told(0, 5) = 12
            hands(0, 60)
            letOff(0, true) = 1
            hands(0, 780)
            runOut(0, true) = 1
            told(0, 5) = 1
            unhang(0, true)
            hands(0, 54)
            forward(0, 1)
            tells(0, 6) = 1
            hang(0, 1, true)
            hands(0, 720)
            letOff(0, true) = 1
            runOut(0, true) = 1
            told(0, 5) = 12
            unhang(0, false) = 0
            letOff(0, true) = 1
            runOut(0, true) = 1
            told(0, 5) = 12
            """);
    }

    private static void liftsLocked(Edges e) {
        e.promise(30, "not if it is LOCKED", """
            tower(0)
            bytes(0, 1)
            plate(0) = 0
            train() = 1
            hang(0, 0, true)
            hang(0, 1, false)
            silence(0, 2, 4, 1)
            letOff(0, true) = 1
            hands(0, 120)
            runOut(0, true) = 1
            told(1, 5) = 0
            letOff(0, true) = 1
            hands(0, 239)
            runOut(0, true) = 1
            told(1, 5) = 0
            letOff(0, true) = 1
            hands(0, 240)
            runOut(0, true) = 1
            told(1, 5) = 1
            letOff(0, true) = 1
            hands(0, 119)
            runOut(0, true) = 1
            told(1, 5) = 2
            silence(0, 2, 4, 0)
            hands(0, 120)
            letOff(0, true) = 1
            runOut(0, true) = 1
            told(1, 5) = 3
            """);
    }

    private static void pass(Edges e) {
        e.promise(31, "n MINUTES (0 .. 3000) go by: NOW.", """
            tower(0)
            tower(3)
            pass(min) = BAD
            pass(-1) = BAD
            pass(0) = 0
            tells(0, 0) = 0
            pass(1) = 1
            pass(2999) = 3000
            pass(3000) = 6000
            pass(3001) = BAD
            pass(max) = BAD
            count(0) = 6000
            tells(0, ?) = 240 0 14000 1
            tells(3, ?) = 240 0 14000 1
            tells(1, 0) = NOTHING
            """);
    }

    private static void passToTheEnd(Edges e) {
        e.promise(31, "NOW is one more; it begins at 0, and ends at 1000000", """
            333 * pass(3000)
            pass(1001) = FULL
            pass(3000) = FULL
            pass(3001) = BAD
            pass(-1) = BAD
            pass(998) = 999998
            pass(3) = FULL
            pass(1) = 999999
            pass(2) = FULL
            pass(1) = 1000000
            pass(1) = FULL
            pass(3000) = FULL
            pass(3001) = BAD
            pass(0) = 1000000
            count(0) = 1000000
            """);
    }

    private static void pace(Edges e) {
        for (int pace : new int[] {1, 2, 29, 30, 31, 59, 60}) {
            StringBuilder lines = new StringBuilder("tower(0)\nbytes(0, 20)\nplate(0) = 0\nhang(0, 0, false)\n");
            lines.append("gear(0, ").append(pace).append(", 1000)\n3 * letOff(0, false)\n");
            lines.append("pass(1)\ntold(0, 7) = ").append(pace).append("\ntold(0, 5) = ").append(60 - pace).append("\n");
            lines.append("pass(1)\ntold(0, 7) = ").append(Math.min(60, 2 * pace)).append("\n");
            e.promise(31, "up to its PACE of the strokes that are DUE are struck", lines.toString());
        }
        for (int due = 29; due <= 31; due++) {
            StringBuilder lines = new StringBuilder("tower(0)\ntrain() = 0\nhang(0, 0, false)\n");
            lines.append(due).append(" * letOff(0, false)\npass(1)\ntold(0, 7) = ").append(Math.min(30, due));
            lines.append("\nlog(0, 0, 2) = ").append(Math.min(30, due)).append("\npass(1)\ntold(0, 7) = ").append(due);
            lines.append("\nlog(0, 0, 2) = ").append(due == 31 ? 1 : due).append("\n");
            e.promise(31, "up to its PACE of the strokes that are DUE are struck", lines.toString());
        }
    }

    private static void weight(Edges e) {
        for (int weight = 0; weight <= 7; weight++) {
            int first = Math.min(weight, 4);
            int all = Math.min(weight, 6);
            e.promise(31, "each if the WEIGHT is above 0 (else it stops there; what is DUE stays)", """
                tower(0)
                bytes(0, 6)
                plate(0) = 0
                hang(0, 0, false)
                gear(0, 4, weight)
                letOff(0, false) = 6
                pass(1)
                told(0, 7) = first
                told(0, 5) = behind
                pass(1)
                told(0, 7) = all
                told(0, 5) = still
                pass(1)
                told(0, 7) = all
                """.replace("weight", "" + weight).replace("first", "" + first).replace("all", "" + all)
                .replace("behind", "" + (6 - first)).replace("still", "" + (6 - all)));
        }
    }

    /** The QUARTER TRAIN runs first, lifts, and the HOUR TRAIN runs in the same MINUTE. */
    private static void inOneMinute(Edges e) {
        for (int pace = 3; pace <= 5; pace++) {
            boolean atOnce = pace >= 4;
            e.promise(31, "Then its QUARTER TRAIN runs, then its HOUR TRAIN.", """
                tower(0)
                bytes(0, 1, 2, 3, 4)
                plate(0) = 0
                train() = 1
                hang(0, 0, true)
                hang(0, 1, false)
                gear(0, pace, 1000)
                pass(60)
                told(1, 7) = struck
                log(0, 0, 1) = latest
                log(0, 0, 0) = 59
                pass(1)
                told(1, 7) = 1
                """.replace("pace", "" + pace).replace("struck", atOnce ? "1" : "0").replace("latest", atOnce ? "1" : "0"));
        }
        e.promise(31, "for each TOWER, the least first", """
            tower(0)
            tower(3)
            train() = 0
            train() = 1
            hang(0, 1, false)
            hang(3, 0, false)
            hands(0, 54)
            hands(3, 55)
            pass(6) = 6
            told(?, 7) = 0 1
            tells(0, 0) = 60
            tells(3, 0) = 61
            log(0, 0, ?) = 5 1 1 1
            log(3, 0, ?) = NONE NONE NONE NONE
            """);
        e.promise(31, "the QUARTER TRAIN is WARNED", """
            tower(0)
            train() = 0
            hang(0, 0, true)
            pass(9)
            tells(0, 7) = 0
            pass(1)
            tells(0, 7) = 1
            pass(4)
            told(0, 7) = 0
            pass(1) = 15
            told(0, 7) = 1
            tells(0, 7) = 0
            log(0, 0, 0) = 14
            """);
    }

    private static void locked(Edges e) {
        e.promise(31, "1 LOCKED: no TRAIN is LET OFF (it stays WARNED).", """
            tower(0)
            bytes(0, 1, 2, 3, 4, 5, 6, 7, 8, 9, 10, 11, 12)
            plate(0) = 0
            hang(0, 0, false)
            silence(0, 2, 4, 1)
            pass(60)
            told(0, 7) = 1
            pass(59)
            tells(0, 8) = 0
            tells(0, 6) = 1
            pass(1) = 120
            tells(0, 8) = 2
            tells(0, 6) = 1
            told(0, 7) = 1
            pass(60) = 180
            tells(0, 6) = 1
            told(0, 7) = 1
            pass(59) = 239
            tells(0, 8) = 2
            told(0, 2) = 1
            pass(1) = 240
            tells(0, 8) = 0
            tells(0, 6) = 0
            told(0, 7) = 3
            told(0, 2) = 2
            off(0, false) = 10
            """);
        e.promise(31, "1 LOCKED: no TRAIN is LET OFF (it stays WARNED).", """
            tower(0)
            bytes(0, 24)
            plate(0) = 0
            hang(0, 0, false)
            gear(0, 1, 100)
            hands(0, 54)
            silence(0, 2, 4, 1)
            pass(6) = 6
            told(0, 7) = 1
            hands(0, 120)
            pass(3)
            told(0, 7) = 4
            heard(0, 0, 100) = 4
            """);
    }

    private static void lockedQuarters(Edges e) {
        e.promise(31, "1 LOCKED: no TRAIN is LET OFF (it stays WARNED).", """
            tower(0)
            bytes(0, 1, 2, 3, 4)
            snail(0) = 0
            train() = 1
            hang(0, 0, true)
            hang(0, 1, false)
            silence(0, 1, 2, 1)
            pass(45) = 45
            told(?, 7) = 6 0
            pass(15) = 60
            told(?, 7) = 6 0
            tells(0, 7) = 1
            pass(45) = 105
            told(?, 7) = 6 0
            tells(0, 7) = 1
            pass(14) = 119
            told(?, 7) = 6 0
            pass(1) = 120
            told(?, 7) = 10 1
            tells(0, 7) = 0
            """);
    }

    private static void mute(Edges e) {
        e.promise(31, "0 MUTE: all strokes are struck, and not heard", """
            tower(0)
            bytes(0, 1, 2, 3, 4, 5, 6, 7, 8, 9, 10, 11, 12)
            plate(0) = 0
            hang(0, 0, false)
            silence(0, 2, 4, 0)
            pass(119)
            log(0, 0, ?) = 59 0 1 1
            pass(1) = 120
            told(0, 7) = 3
            told(0, 4) = 997
            log(0, 0, ?) = 59 0 1 1
            pass(119) = 239
            told(0, 7) = 6
            log(0, 1, 0) = NONE
            pass(1) = 240
            told(0, 7) = 10
            log(0, 0, ?) = 239 0 4 1
            log(0, 1, 0) = 59
            """);
        e.promise(31, "and the TOWER is not MUTE", """
            tower(0)
            bytes(0, 24)
            plate(0) = 0
            hang(0, 0, false)
            gear(0, 3, 100)
            hands(0, 118)
            letOff(0, false) = 24
            silence(0, 2, 3, 0)
            pass(2) = 2
            told(0, 7) = 6
            log(0, 0, ?) = 0 0 3 1
            hands(0, 178)
            pass(2) = 4
            told(0, 7) = 12
            log(0, 0, ?) = 3 0 3 1
            log(0, 2, 0) = NONE
            """);
    }

    private static void log(Edges e) {
        e.promise(33, "0 NOW, 1 which TRAIN, 2 strokes, 3 hammers; NONE: none such. BAD; NOTHING.", """
            tower(0)
            tower(3)
            bytes(0, 2, 3)
            bytes(1, 1, 2, 4, 8, 16)
            train() = 0
            barrel(0, 1) = 1
            hang(0, 0, false)
            hang(0, 1, true)
            log(0, 0, ?) = NONE NONE NONE NONE BAD
            letOff(0, true) = 2
            runOut(0, true) = 2
            pass(5)
            letOff(0, false) = 1
            runOut(0, false) = 1
            log(0, 0, min) = BAD
            log(0, 0, -1) = BAD
            log(0, 0, ?) = 5 0 1 1 BAD
            log(0, 0, max) = BAD
            log(0, 1, ?) = 0 1 2 3 BAD
            log(0, 2, ?) = NONE NONE NONE NONE BAD
            log(0, 2, -1) = BAD
            log(0, -1, ?) = NONE NONE NONE NONE BAD
            log(0, min, 0) = NONE
            log(0, max, 3) = NONE
            log(3, 0, 0) = NONE
            log(-1, 0, 0) = BAD
            log(4, 0, 0) = BAD
            log(1, 0, ?) = NOTHING NOTHING NOTHING NOTHING BAD
            log(2, 99, 0) = NOTHING
            log(2, -1, 0) = NOTHING
            log(1, 0, -1) = BAD
            log(4, 0, 9) = BAD
            """);
        e.promise(33, "for each time that a TRAIN of it RAN (in a MINUTE, or by runOut()) and strokes were HEARD", """
            tower(0)
            bytes(0, 3)
            bytes(1, 0, 0, 1, 2)
            barrel(0, 1) = 0
            hang(0, 0, false)
            gear(0, 2, 100)
            letOff(0, false) = 3
            pass(1) = 1
            log(0, 0, 0) = NONE
            pass(1) = 2
            log(0, 0, ?) = 1 0 1 1
            letOff(0, false) = 3
            pass(2) = 4
            log(0, 0, ?) = 2 0 1 2
            log(0, 1, ?) = 1 0 1 1
            log(0, 2, 0) = NONE
            unhang(0, false) = 0
            log(0, 0, ?) = 2 0 1 2
            """);
    }

    private static void logSizes(Edges e) {
        for (int entries = 59; entries <= 61; entries++) {
            StringBuilder lines = new StringBuilder("tower(0)\ntrain() = 0\nhang(0, 0, false)\ngo(0, false)\n");
            lines.append("gear(0, 1, 1000)\n").append(entries).append(" * letOff(0, false)\n");
            lines.append("pass(").append(entries).append(")\ntold(0, 7) = ").append(entries).append("\n");
            for (int i : new int[] {0, 1, 57, 58, 59, 60, 61, 119, 120}) {
                lines.append("log(0, ").append(i).append(", 0) = ");
                lines.append(i < Math.min(entries, 60) ? "" + (entries - 1 - i) : "NONE").append("\n");
            }
            lines.append("heard(0, 0, max) = ").append(Math.min(entries, 60)).append("\n");
            lines.append("heard(0, 0, 0) = ").append(entries == 61 ? 0 : 1).append("\n");
            e.promise(33, "The latest 60 are kept.", lines.toString());
        }
    }

    private static void heard(Edges e) {
        e.promise(34, "How many strokes a TOWER's LOG has from a MINUTE to another one (both in it).", """
            tower(0)
            tower(3)
            bytes(0, 7)
            plate(0) = 0
            plate(0) = 1
            hang(0, 0, false)
            hang(0, 1, true)
            pass(5)
            letOff(0, false) = 7
            runOut(0, false) = 7
            pass(2) = 7
            letOff(0, true) = 7
            gear(1, 4, 100)
            pass(2) = 9
            heard(0, 0, 4) = 0
            heard(0, 0, 5) = 7
            heard(0, 5, 5) = 7
            heard(0, 6, 6) = 0
            heard(0, 5, 6) = 7
            heard(0, 5, 7) = 11
            heard(0, 6, 7) = 4
            heard(0, 7, 7) = 4
            heard(0, 5, 8) = 21
            heard(0, 8, 8) = 10
            heard(0, 8, 9) = 10
            heard(0, 9, 9) = 0
            heard(0, 0, max) = 21
            heard(0, max, max) = 0
            heard(0, 0, 1000001) = 21
            heard(3, 0, max) = 0
            """);
        e.promise(34, "BAD: below 0, a above b; NOTHING.", """
            tower(0)
            train() = 0
            hang(0, 0, false)
            letOff(0, false)
            runOut(0, false)
            heard(0, min, 5) = BAD
            heard(0, -1, 5) = BAD
            heard(0, 0, 5) = 1
            heard(0, -1, -1) = BAD
            heard(0, 0, -1) = BAD
            heard(0, 0, 0) = 1
            heard(0, 1, 0) = BAD
            heard(0, 1, 1) = 0
            heard(0, 6, 5) = BAD
            heard(0, max, min) = BAD
            heard(-1, 0, 1) = BAD
            heard(4, 0, 1) = BAD
            heard(3, 0, 1) = NOTHING
            heard(1, 0, 0) = NOTHING
            heard(1, 1, 0) = BAD
            heard(1, -1, 0) = BAD
            """);
    }

    private static void heardOfSixty(Edges e) {
        e.promise(34, "The latest 60 are kept.", """
            tower(0)
            bytes(0, 5)
            plate(0) = 0
            train() = 1
            hang(0, 0, false)
            letOff(0, false) = 5
            runOut(0, false) = 5
            hang(0, 1, false) = 0
            gear(1, 1, 1000)
            60 * letOff(0, false)
            go(0, false)
            pass(58) = 58
            heard(0, 0, max) = 63
            pass(1) = 59
            heard(0, 0, max) = 64
            heard(0, 0, 0) = 6
            pass(1) = 60
            heard(0, 0, max) = 60
            heard(0, 0, 0) = 1
            """);
    }
}
