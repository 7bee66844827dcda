import java.util.Arrays;

/**
 * Tower clocks that are told by their hammers. The document's numbered promises say what each call
 * answers; refusals are numbers below 0 and never exceptions.
 */
public final class HammerTowers {
    public static final int BAD = -1, FULL = -2, FINDING = -3, STATE = -4, NONE = -9;

    private static final int NOTHING = 1, BEYOND = 2, UNLIKE = 3, NOUGHT = 4, SIZE = 5;
    private static final int TRAIN = 0, PLATE = 1, SNAIL = 2, BARREL = 3;
    private static final int MUTE = 1, LOCKED = 2;
    private static final int NO_FAULT = 0, OUT = 1, ONE_NOTCH = 2, LOST = 3, DEAF = 4;
    private static final int BY_HAND = 0, HANDS_FORWARD = 1, HANDS_BACK = 2;

    private static final int ROWS = 8, MOST_BYTES = 48, MISSING = -1;
    private static final int MOST_TRAINS = 16, MOST_NOTCHES = 24, MOST_STROKES = 24, MOST_PACE = 60;
    private static final int MOST_FALL = 100000, ALL_HAMMERS = 255;
    private static final int TOWERS = 4, MOST_ENTRIES = 60, MOST_RATE = 3600;
    private static final int DAY_MINUTES = 1440, DAY_SECONDS = 86400, LAST_NOW = 1000000;
    private static final int MOST_STEPS = 1500, MOST_MINUTES = 3000;
    private static final int HOURS = 12, DAY_HOURS = 24, DAY_QUARTERS = 96;
    private static final int MOST_WHEELS = 12, LEAST_TEETH = 6, MOST_TEETH = 200, MOST_RATIO = 10000;

    private final Row[] rows = new Row[ROWS];
    private final Train[] trains = new Train[MOST_TRAINS];
    private int trainCount;
    private final Tower[] towers = new Tower[TOWERS];
    private int now;
    private final Righting righting = new Righting();
    private final FaultFinder faults = new FaultFinder();
    private int faultSort = NONE, faultFirst, faultSecond;
    private final Gearing gearing = new Gearing();
    private int asked;
    private int finding;
    private final int[] findingCounts = new int[SIZE + 1];

    public HammerTowers() {
        for (int r = 0; r < rows.length; r++) {
            rows[r] = new Row();
        }
        for (int t = 0; t < towers.length; t++) {
            towers[t] = new Tower();
        }
    }

    // ---- 1 rows, trains

    public int row(int r, int n) {
        Row row = rowOf(r);
        if (row == null || n > MOST_BYTES) {
            return BAD;
        }
        if (n < 0) {
            return found(SIZE);
        }
        row.begin(n);
        return n;
    }

    public int lay(int r, int i, int v) {
        Row row = rowOf(r);
        if (row == null) {
            return BAD;
        }
        if (!row.isThere()) {
            return found(NOTHING);
        }
        if (!row.hasRun(i, 1)) {
            return found(BEYOND);
        }
        int was = row.at(i);
        row.set(i, v);
        return was + 1000;
    }

    public int tear(int r) {
        Row row = rowOf(r);
        if (row == null) {
            return BAD;
        }
        if (!row.isThere()) {
            return found(NOTHING);
        }
        row.size = MISSING;
        return 1;
    }

    public int copy(int r, int i, int to, int j, int n) {
        Row from = rowOf(r);
        Row into = rowOf(to);
        if (from == null || into == null) {
            return BAD;
        }
        if (n < 0) {
            return found(SIZE);
        }
        if (!from.isThere() || !into.isThere()) {
            return found(NOTHING);
        }
        if (!from.hasRun(i, n) || !into.hasRun(j, n)) {
            return found(BEYOND);
        }
        System.arraycopy(from.bytes, i, into.bytes, j, n);
        return 1;
    }

    public int train() {
        if (trainCount >= trains.length) {
            return FULL;
        }
        return keep(new Train(trainCount, TRAIN, new int[0]));
    }

    public int plate(int r) {
        int refusal = refusalOfStrokes(r, r);
        Row row = rowOf(r);
        if (refusal != 0 || row == null) {
            return refusal;
        }
        return keep(new Plate(trainCount, PLATE, row.asNumbers(-1)));
    }

    public int snail(int r) {
        int refusal = refusalOfStrokes(r, r);
        Row row = rowOf(r);
        if (refusal != 0 || row == null) {
            return refusal;
        }
        return keep(new Snail(trainCount, row.asNumbers(-1)));
    }

    public int barrel(int r, int pins) {
        int refusal = refusalOfStrokes(r, pins);
        Row row = rowOf(r);
        Row pinRow = rowOf(pins);
        if (refusal != 0 || row == null || pinRow == null) {
            return refusal;
        }
        return keep(new Barrel(trainCount, row.asNumbers(-1), pinRow.asNumbers(ALL_HAMMERS)));
    }

    public int gear(int train, int pace, int fall) {
        Train it = trainOf(train);
        if (it == null || pace < 1 || pace > MOST_PACE || fall < 0 || fall > MOST_FALL) {
            return BAD;
        }
        int was = it.weight;
        it.pace = pace;
        it.fall = fall;
        it.weight = fall;
        return was;
    }

    public int wind(int train) {
        Train it = trainOf(train);
        if (it == null) {
            return BAD;
        }
        int more = it.fall - it.weight;
        it.weight = it.fall;
        return more;
    }

    public int broken(int train, int hammers) {
        Train it = trainOf(train);
        if (it == null || hammers < 0 || hammers > ALL_HAMMERS) {
            return BAD;
        }
        int were = it.broken;
        it.broken = hammers;
        return were;
    }

    public int told(int train, int what) {
        Train it = trainOf(train);
        if (it == null) {
            return BAD;
        }
        switch (what) {
            case 0: return it.kind;
            case 1: return it.strokes.length;
            case 2: return it.stand();
            case 3: return it.pace;
            case 4: return it.weight;
            case 5: return it.due;
            case 6: return it.tower;
            case 7: return it.struck;
            default: return BAD;
        }
    }

    public int mark(int train, int kind) {
        Train it = trainOf(train);
        if (it == null || kind < PLATE || kind > BARREL) {
            return BAD;
        }
        if (kind == PLATE && it instanceof Plate) {
            return it.together();
        }
        if (kind == SNAIL && it instanceof Snail) {
            return it.greatest();
        }
        if (kind == BARREL && it instanceof Barrel barrel) {
            return barrel.pin;
        }
        return found(UNLIKE);
    }

    public int notch(int train, int i) {
        Train it = trainOf(train);
        if (it == null) {
            return BAD;
        }
        if (it.kind == TRAIN) {
            return found(UNLIKE);
        }
        if (!it.hasPlace(i)) {
            return found(BEYOND);
        }
        return it.strokes[i];
    }

    public int cut(int train, int i, int v) {
        Train it = trainOf(train);
        if (it == null || v < 1 || v > MOST_STROKES) {
            return BAD;
        }
        if (it.kind == TRAIN) {
            return found(UNLIKE);
        }
        if (!it.hasPlace(i)) {
            return found(BEYOND);
        }
        int were = it.strokes[i];
        it.strokes[i] = v;
        return were;
    }

    public int put(int train, int i) {
        Train it = trainOf(train);
        if (it == null) {
            return BAD;
        }
        if (!(it instanceof Plate plate)) {
            return found(UNLIKE);
        }
        if (!plate.hasPlace(i)) {
            return found(BEYOND);
        }
        int stood = plate.at;
        plate.at = i;
        return stood;
    }

    public int mean(int train) {
        Train it = trainOf(train);
        if (it == null) {
            return BAD;
        }
        int places = it.strokes.length;
        if (places == 0) {
            return found(NOUGHT);
        }
        return it.together() / places;
    }

    // ---- 2 towers

    public int tower(int t) {
        Tower tower = towerOf(t);
        if (tower == null) {
            return BAD;
        }
        int was = tower.there ? 1 : 0;
        tower.begin();
        return was;
    }

    public int hang(int t, int train, boolean quarter) {
        Tower tower = towerOf(t);
        Train it = trainOf(train);
        if (tower == null || it == null) {
            return BAD;
        }
        if (!tower.there) {
            return found(NOTHING);
        }
        if (it.tower != NONE) {
            return STATE;
        }
        int was = tower.release(quarter);
        it.comeTo(t);
        tower.take(it, quarter);
        return was;
    }

    public int unhang(int t, boolean quarter) {
        Tower tower = towerOf(t);
        if (tower == null) {
            return BAD;
        }
        if (!tower.there || tower.trainIn(quarter) == null) {
            return found(NOTHING);
        }
        return tower.release(quarter);
    }

    public int hands(int t, int minute) {
        Tower tower = towerOf(t);
        if (tower == null || minute < 0 || minute >= DAY_MINUTES) {
            return BAD;
        }
        if (!tower.there) {
            return found(NOTHING);
        }
        int were = tower.hands;
        tower.hands = minute;
        return were;
    }

    public int forward(int t, int n) {
        Tower tower = towerOf(t);
        if (tower == null || n < 0 || n > MOST_STEPS) {
            return BAD;
        }
        if (!tower.there) {
            return found(NOTHING);
        }
        for (int i = 0; i < n; i++) {
            tower.stepForward();
        }
        return tower.hands;
    }

    public int back(int t, int n) {
        Tower tower = towerOf(t);
        if (tower == null || n < 0 || n > MOST_STEPS) {
            return BAD;
        }
        if (!tower.there) {
            return found(NOTHING);
        }
        tower.hands = Math.floorMod(tower.hands - n, DAY_MINUTES);
        return tower.hands;
    }

    public int rate(int t, int seconds) {
        Tower tower = towerOf(t);
        if (tower == null || seconds < -MOST_RATE || seconds > MOST_RATE) {
            return BAD;
        }
        if (!tower.there) {
            return found(NOTHING);
        }
        int was = tower.rate;
        tower.rate = seconds;
        return was;
    }

    public int go(int t, boolean is) {
        Tower tower = towerOf(t);
        if (tower == null) {
            return BAD;
        }
        if (!tower.there) {
            return found(NOTHING);
        }
        int went = tower.goes ? 1 : 0;
        tower.goes = is;
        return went;
    }

    public int windGoing(int t, int n) {
        Tower tower = towerOf(t);
        if (tower == null || n < 0 || n > MOST_FALL) {
            return BAD;
        }
        if (!tower.there) {
            return found(NOTHING);
        }
        int was = tower.going;
        tower.going = n;
        return was;
    }

    public int silence(int t, int a, int b, int sort) {
        Tower tower = towerOf(t);
        if (tower == null || !isDayHour(a) || !isDayHour(b) || sort < 0 || sort > 1) {
            return BAD;
        }
        if (!tower.there) {
            return found(NOTHING);
        }
        tower.keepSilence(a, b, sort == 0 ? MUTE : LOCKED);
        return 1;
    }

    public int letOff(int t, boolean quarter) {
        Tower tower = towerOf(t);
        if (tower == null) {
            return BAD;
        }
        Train it = tower.trainIn(quarter);
        if (!tower.there || it == null) {
            return found(NOTHING);
        }
        tower.letOffByHands(it, quarter);
        return it.due;
    }

    public int runOut(int t, boolean quarter) {
        Tower tower = towerOf(t);
        if (tower == null) {
            return BAD;
        }
        Train it = tower.trainIn(quarter);
        if (!tower.there || it == null) {
            return found(NOTHING);
        }
        return tower.run(it, it.due, now);
    }

    public int pass(int n) {
        if (n < 0 || n > MOST_MINUTES) {
            return BAD;
        }
        if (n > LAST_NOW - now) {
            return FULL;
        }
        for (int i = 0; i < n; i++) {
            for (int t = 0; t < towers.length; t++) {
                Tower tower = towers[t];
                if (tower != null && tower.there) {
                    tower.minute(now);
                }
            }
            now++;
        }
        return now;
    }

    public int tells(int t, int what) {
        Tower tower = towerOf(t);
        if (tower == null || what < 0 || what > 8) {
            return BAD;
        }
        if (!tower.there) {
            return found(NOTHING);
        }
        switch (what) {
            case 0: return tower.hands;
            case 1: return tower.sum;
            case 2: return tower.going;
            case 3: return tower.goes ? 1 : 0;
            case 4: return tower.numberIn(false);
            case 5: return tower.numberIn(true);
            case 6: return tower.isWarned(false) ? 1 : 0;
            case 7: return tower.isWarned(true) ? 1 : 0;
            default: return tower.silenceNow();
        }
    }

    public int log(int t, int i, int what) {
        Tower tower = towerOf(t);
        if (tower == null || what < 0 || what > 3) {
            return BAD;
        }
        if (!tower.there) {
            return found(NOTHING);
        }
        return tower.log.entry(i, what);
    }

    public int heard(int t, int a, int b) {
        Tower tower = towerOf(t);
        if (tower == null || a < 0 || a > b) {
            return BAD;
        }
        if (!tower.there) {
            return found(NOTHING);
        }
        return tower.log.strokesBetween(a, b);
    }

    public int ahead(int t, int u) {
        Tower one = towerOf(t);
        Tower other = towerOf(u);
        if (one == null || other == null) {
            return BAD;
        }
        if (!one.there || !other.there) {
            return found(NOTHING);
        }
        int by = Math.floorMod(one.hands - other.hands, DAY_MINUTES);
        return by > DAY_MINUTES / 2 ? by - DAY_MINUTES : by;
    }

    public int meet(int t, int u) {
        Tower one = towerOf(t);
        Tower other = towerOf(u);
        if (one == null || other == null) {
            return BAD;
        }
        if (!one.there || !other.there) {
            return found(NOTHING);
        }
        if (!one.goes || !other.goes) {
            return STATE;
        }
        return minutesToMeet(one, other);
    }

    // ---- 3 right and wrong

    public int right(int t, boolean quarter) {
        int by = off(t, quarter);
        if (by < 0) {
            return by;
        }
        return by == 0 ? 1 : 0;
    }

    public int off(int t, boolean quarter) {
        Tower tower = towerOf(t);
        if (tower == null) {
            return BAD;
        }
        Train it = tower.trainIn(quarter);
        if (!tower.there || it == null) {
            return found(NOTHING);
        }
        if (!(it instanceof Plate plate)) {
            return found(UNLIKE);
        }
        return plate.aheadOf(tower.nextPlace(quarter));
    }

    public int putRight(int t, int hour) {
        Tower tower = towerOf(t);
        if (tower == null || !isHour(hour)) {
            return BAD;
        }
        Train it = tower.trainIn(false);
        if (!tower.there || it == null) {
            return found(NOTHING);
        }
        if (!(it instanceof Plate plate) || plate.strokes.length != HOURS) {
            return found(UNLIKE);
        }
        int strokes = righting.plan(plate, tower.nextPlace(false), hour - 1);
        asked = righting.count;
        return strokes;
    }

    public int act(int i) {
        return righting.actAt(i);
    }

    public int due(int hour, int i, int sort, int a, int b) {
        if (!isHour(hour) || i < 0 || i >= MOST_BYTES || !FaultFinder.isFault(sort, a, b)) {
            return BAD;
        }
        return FaultFinder.dueAt(hour, i, sort, a, b);
    }

    public int misfits(int r, int hour, int sort, int a, int b) {
        int refusal = refusalOfHeard(r, hour, FaultFinder.isFault(sort, a, b));
        if (refusal != 0) {
            return refusal;
        }
        faults.listen(rowOf(r), hour);
        return faults.misfitsOf(sort, a, b);
    }

    public int fault(int r, int hour) {
        int refusal = refusalOfHeard(r, hour, true);
        if (refusal != 0) {
            return refusal;
        }
        faults.listen(rowOf(r), hour);
        faults.search();
        faultSort = faults.sort;
        faultFirst = faults.first;
        faultSecond = faults.second;
        asked = faults.fewest;
        return faultSort;
    }

    public int faultTold(boolean other) {
        if (faultSort == NONE || faultSort == NO_FAULT) {
            return NONE;
        }
        if (!other) {
            return faultFirst;
        }
        return faultSort == LOST ? NONE : faultSecond;
    }

    public int explained(int r, int hour) {
        int refusal = refusalOfHeard(r, hour, true);
        if (refusal != 0) {
            return refusal;
        }
        faults.listen(rowOf(r), hour);
        faults.search();
        return faults.fitting;
    }

    public int windy(int r, int hour, int sort, int a, int b) {
        int refusal = refusalOfHeard(r, hour, FaultFinder.isFault(sort, a, b));
        if (refusal != 0) {
            return refusal;
        }
        faults.listen(rowOf(r), hour);
        int place = faults.firstWithMore(sort, a, b);
        if (place == NONE) {
            return 1;
        }
        asked = place;
        return 0;
    }

    // ---- 4 wheels, lasting

    public int wheel(int teeth) {
        if (teeth < LEAST_TEETH || teeth > MOST_TEETH) {
            return BAD;
        }
        if (gearing.wheels >= MOST_WHEELS) {
            return FULL;
        }
        return gearing.add(teeth);
    }

    public int nearest(int u, int v, int n) {
        if (u < 1 || u > MOST_RATIO || v < 1 || v > MOST_RATIO || n < 1 || n > 2) {
            return BAD;
        }
        if (gearing.wheels < 2 * n) {
            return found(NOUGHT);
        }
        gearing.search(u, v, n);
        return 1;
    }

    public int chosen(int i) {
        return gearing.chosenAt(i);
    }

    public int daily(int train, boolean quarter) {
        Train it = trainOf(train);
        return it == null ? BAD : it.strokesOfDay(quarter);
    }

    public int lasting(int t) {
        Tower tower = towerOf(t);
        if (tower == null) {
            return BAD;
        }
        if (!tower.there) {
            return found(NOTHING);
        }
        return tower.minutesLeft();
    }

    public int lastingDays(int train, boolean quarter) {
        Train it = trainOf(train);
        return it == null ? BAD : it.wholeDays(quarter);
    }

    // ---- 5 what is told

    public int asked() {
        return asked;
    }

    public long upper() {
        return gearing.upper;
    }

    public long lower() {
        return gearing.lower;
    }

    public int count(int what) {
        switch (what) {
            case 0: return now;
            case 1: return trainCount;
            case 2: return towersThere();
            case 3: return gearing.wheels;
            case 4: return rowsThere();
            case 5: return strokesEver();
            default: return BAD;
        }
    }

    public int finding() {
        return finding;
    }

    public int findings(int f) {
        return f >= NOTHING && f < findingCounts.length ? findingCounts[f] : BAD;
    }

    public long digest() {
        long h = mix(17, now);
        for (int i = 0; i < trainCount; i++) {
            h = mixTrain(h, i);
        }
        for (int t = 0; t < towers.length; t++) {
            h = mixTower(h, t);
        }
        for (int r = 0; r < rows.length; r++) {
            h = mixRow(h, rowOf(r));
        }
        return h;
    }

    // ---- numbers to things, refusals

    /** The one at this number, or null where the number is none; it may still be missing. */
    private Row rowOf(int r) {
        return r >= 0 && r < rows.length ? rows[r] : null;
    }

    private Train trainOf(int train) {
        return train >= 0 && train < trainCount ? trains[train] : null;
    }

    /** As rowOf(): a TOWER that is missing is told by its own field. */
    private Tower towerOf(int t) {
        return t >= 0 && t < towers.length ? towers[t] : null;
    }

    private int keep(Train train) {
        if (trainCount < 0 || trainCount >= trains.length) {
            return FULL;
        }
        trains[trainCount] = train;
        trainCount++;
        return train.number;
    }

    private int found(int which) {
        finding = which;
        if (which >= 0 && which < findingCounts.length) {
            findingCounts[which]++;
        }
        return FINDING;
    }

    /** Why no TRAIN comes of these ROWS, or 0; pins is r itself for a TRAIN that has no PINS. */
    private int refusalOfStrokes(int r, int pins) {
        Row row = rowOf(r);
        Row pinRow = rowOf(pins);
        if (row == null || pinRow == null) {
            return BAD;
        }
        if (trainCount >= trains.length) {
            return FULL;
        }
        if (!row.isThere() || !pinRow.isThere()) {
            return found(NOTHING);
        }
        return row.isStrokes() && pinRow.size > 0 ? 0 : found(SIZE);
    }

    private int refusalOfHeard(int r, int hour, boolean isFault) {
        Row row = rowOf(r);
        if (row == null || !isHour(hour) || !isFault) {
            return BAD;
        }
        return row.isThere() ? 0 : found(NOTHING);
    }

    private static boolean isHour(int hour) {
        return hour >= 1 && hour <= HOURS;
    }

    private static boolean isDayHour(int hour) {
        return hour >= 0 && hour < DAY_HOURS;
    }

    private static int minutesToMeet(Tower one, Tower other) {
        long round = (long) DAY_MINUTES * DAY_SECONDS;
        long gap = Math.floorMod(one.parts() - other.parts(), round);
        if (gap == 0) {
            return 0;
        }
        int gain = one.rate - other.rate;
        if (gain == 0) {
            return NONE;
        }
        long way = gain > 0 ? round - gap : gap;
        long pace = Math.abs(gain);
        return (int) ((way + pace - 1) / pace);
    }

    // ---- counts, digest

    private int towersThere() {
        int there = 0;
        for (int t = 0; t < towers.length; t++) {
            Tower tower = towers[t];
            if (tower != null && tower.there) {
                there++;
            }
        }
        return there;
    }

    private int rowsThere() {
        int there = 0;
        for (int r = 0; r < rows.length; r++) {
            Row row = rows[r];
            if (row != null && row.isThere()) {
                there++;
            }
        }
        return there;
    }

    private int strokesEver() {
        int struck = 0;
        for (int i = 0; i < trainCount; i++) {
            Train it = trains[i];
            if (it != null) {
                struck += it.struck;
            }
        }
        return struck;
    }

    private static long mix(long h, long v) {
        return 31 * h + v;
    }

    private static long mixAll(long h, int[] numbers) {
        for (int i = 0; i < numbers.length; i++) {
            h = mix(h, numbers[i]);
        }
        return h;
    }

    private long mixTrain(long h, int train) {
        Train it = trainOf(train);
        if (it == null) {
            return h;
        }
        for (int what = 0; what <= 7; what++) {
            h = mix(h, told(train, what));
        }
        h = mixAll(h, it.strokes);
        if (it instanceof Barrel barrel) {
            h = mix(mixAll(h, barrel.pins), barrel.pin);
        }
        return h;
    }

    private long mixTower(long h, int t) {
        Tower tower = towerOf(t);
        if (tower == null || !tower.there) {
            return mix(h, MISSING);
        }
        for (int what = 0; what <= 8; what++) {
            h = mix(h, tells(t, what));
        }
        h = mix(h, tower.log.size);
        for (int what = 0; what <= 3; what++) {
            h = mix(h, tower.log.size == 0 ? 0 : tower.log.entry(0, what));
        }
        return h;
    }

    private static long mixRow(long h, Row row) {
        if (row == null) {
            return h;
        }
        h = mix(h, row.size);
        for (int i = 0; i < row.size; i++) {
            h = mix(h, row.at(i));
        }
        return h;
    }

    /** A ROW; its bytes are made once, as a run may begin ROWS in every call. */
    private static final class Row {
        final byte[] bytes = new byte[MOST_BYTES];
        int size = MISSING;

        boolean isThere() {
            return size != MISSING;
        }

        void begin(int n) {
            Arrays.fill(bytes, (byte) 0);
            size = n;
        }

        int at(int i) {
            return i >= 0 && i < size && i < bytes.length ? bytes[i] : 0;
        }

        void set(int i, int v) {
            if (i >= 0 && i < bytes.length) {
                bytes[i] = (byte) v;
            }
        }

        /** Whether n places (0 or more) are there from i on; told without i + n, which could wrap. */
        boolean hasRun(int i, int n) {
            return i >= 0 && n <= size && i <= size - n;
        }

        boolean isStrokes() {
            if (size < 1 || size > MOST_NOTCHES) {
                return false;
            }
            for (int i = 0; i < size; i++) {
                if (at(i) < 1 || at(i) > MOST_STROKES) {
                    return false;
                }
            }
            return true;
        }

        int[] asNumbers(int mask) {
            int[] numbers = new int[Math.max(size, 0)];
            for (int i = 0; i < numbers.length; i++) {
                numbers[i] = at(i) & mask;
            }
            return numbers;
        }
    }

    /** A TRAIN of KIND 0, and what all KINDS have in common; strokes are the NOTCHES or STEPS. */
    private static class Train {
        final int number;
        final int kind;
        final int[] strokes;
        int pace = 30;
        int fall = 1000;
        int weight = 1000;
        int broken;
        int due;
        int struck;
        int tower = NONE;
        boolean warned;
        boolean lifts;
        int heardStrokes;
        int heardHammers;

        Train(int number, int kind, int[] strokes) {
            this.number = number;
            this.kind = kind;
            this.strokes = strokes;
        }

        int stand() {
            return NONE;
        }

        /** LET OFF; step is the STEP that is told, fourth whether that is the quarter 4. */
        void letGo(int step, boolean fourth) {
            due++;
            lifts = fourth;
        }

        /** Strokes of the LET OFF that comes behind i others, of a day that begins at HANDS 0. */
        int strokesAhead(int i, boolean quarter) {
            return 1;
        }

        /** The hammers that the next stroke lifts. */
        int lift() {
            return 1;
        }

        void comeTo(int t) {
            tower = t;
            warned = false;
            due = 0;
        }

        /** Strikes what is DUE, most at the most; what was HEARD of it stays to be logged. */
        int strike(int most, boolean mute) {
            heardStrokes = 0;
            heardHammers = 0;
            int done = 0;
            while (done < most && due > 0 && weight > 0) {
                done++;
                due--;
                weight--;
                int sounding = lift() & ~broken;
                if (sounding != 0 && !mute) {
                    heardStrokes++;
                    heardHammers |= sounding;
                }
            }
            struck += done;
            return done;
        }

        boolean hasPlace(int i) {
            return i >= 0 && i < strokes.length;
        }

        /** Strokes of a NOTCH or STEP, round; a TRAIN that has none strikes one. */
        int strokesRound(int place) {
            int places = strokes.length;
            return place >= 0 && places > 0 ? strokes[place % places] : 1;
        }

        int together() {
            int sum = 0;
            for (int i = 0; i < strokes.length; i++) {
                sum += strokes[i];
            }
            return sum;
        }

        int greatest() {
            int most = 0;
            for (int i = 0; i < strokes.length; i++) {
                most = Math.max(most, strokes[i]);
            }
            return most;
        }

        int strokesOfDay(boolean quarter) {
            int letOffs = quarter ? DAY_QUARTERS : DAY_HOURS;
            int sum = 0;
            for (int i = 0; i < letOffs; i++) {
                sum += strokesAhead(i, quarter);
            }
            return sum;
        }

        /** Each LET OFF takes 1 at least of the WEIGHT, so that its greatest FALL bounds the walk. */
        int wholeDays(boolean quarter) {
            int letOffs = quarter ? DAY_QUARTERS : DAY_HOURS;
            int left = weight;
            for (int i = 0; i <= MOST_FALL; i++) {
                left -= strokesAhead(i, quarter);
                if (left < 0) {
                    return i / letOffs;
                }
            }
            return MOST_FALL / letOffs;
        }
    }

    private static class Plate extends Train {
        int at;

        Plate(int number, int kind, int[] strokes) {
            super(number, kind, strokes);
        }

        int stand() {
            return at;
        }

        void letGo(int step, boolean fourth) {
            boolean last = at + 1 >= strokes.length;
            due += strokesRound(at);
            lifts = last;
            at = last ? 0 : at + 1;
        }

        int strokesAhead(int i, boolean quarter) {
            return strokesRound(at + i);
        }

        /** By how many NOTCHES it stands ahead of this one, round. */
        int aheadOf(int place) {
            int notches = strokes.length;
            return notches > 0 ? Math.floorMod(at - place, notches) : 0;
        }
    }

    private static final class Snail extends Train {
        Snail(int number, int[] strokes) {
            super(number, SNAIL, strokes);
        }

        void letGo(int step, boolean fourth) {
            due = strokesRound(step);
            lifts = fourth;
        }

        int strokesAhead(int i, boolean quarter) {
            return strokesRound(i % (quarter ? 4 : HOURS));
        }
    }

    private static final class Barrel extends Plate {
        final int[] pins;
        int pin;

        Barrel(int number, int[] strokes, int[] pins) {
            super(number, BARREL, strokes);
            this.pins = pins;
        }

        int lift() {
            if (pin < 0 || pin >= pins.length) {
                return 0;
            }
            int hammers = pins[pin];
            pin = pin + 1 < pins.length ? pin + 1 : 0;
            return hammers;
        }
    }

    private static final class Tower {
        boolean there;
        int hands;
        int rate;
        int sum;
        int going;
        boolean goes;
        private Train hourTrain;
        private Train quarterTrain;
        private int silentFrom;
        private int silentTo;
        private int silentSort;
        final Log log = new Log();

        void begin() {
            there = true;
            hands = 0;
            rate = 0;
            sum = 0;
            going = 20000;
            goes = true;
            release(false);
            release(true);
            keepSilence(0, 0, MUTE);
            log.clear();
        }

        Train trainIn(boolean quarter) {
            return quarter ? quarterTrain : hourTrain;
        }

        int numberIn(boolean quarter) {
            Train it = trainIn(quarter);
            return it == null ? NONE : it.number;
        }

        boolean isWarned(boolean quarter) {
            Train it = trainIn(quarter);
            return it != null && it.warned;
        }

        void take(Train it, boolean quarter) {
            if (quarter) {
                quarterTrain = it;
            } else {
                hourTrain = it;
            }
        }

        /** Frees the TRAIN of a place: its number. */
        int release(boolean quarter) {
            Train it = trainIn(quarter);
            if (it == null) {
                return NONE;
            }
            it.tower = NONE;
            take(null, quarter);
            return it.number;
        }

        void keepSilence(int from, int to, int sort) {
            silentFrom = from;
            silentTo = to;
            silentSort = sort;
        }

        int silenceNow() {
            int into = Math.floorMod(hands / 60 - silentFrom, DAY_HOURS);
            int lasts = Math.floorMod(silentTo - silentFrom, DAY_HOURS);
            return into < lasts ? silentSort : 0;
        }

        /** The NOTCH, before it is taken round the PLATE, that comes next by the HANDS. */
        int nextPlace(boolean quarter) {
            return quarter ? hands % 60 / 15 : hands / 60 % HOURS;
        }

        /** Where the HANDS are, told in parts of which a minute has as many as a day has seconds. */
        long parts() {
            return (long) hands * DAY_SECONDS + sum;
        }

        void minute(int now) {
            if (goes && going > 0) {
                sum += DAY_SECONDS + rate;
                while (sum >= DAY_SECONDS && going > 0) {
                    sum -= DAY_SECONDS;
                    going--;
                    stepForward();
                }
            }
            if (quarterTrain != null) {
                run(quarterTrain, quarterTrain.pace, now);
            }
            if (hourTrain != null) {
                run(hourTrain, hourTrain.pace, now);
            }
        }

        void stepForward() {
            hands = hands + 1 < DAY_MINUTES ? hands + 1 : 0;
            int minute = hands % 60;
            if (quarterTrain != null) {
                warnOrLetOff(quarterTrain, true, minute % 15 == 10, minute % 15 == 0);
            } else if (hourTrain != null) {
                warnOrLetOff(hourTrain, false, minute == 55, minute == 0);
            }
        }

        private void warnOrLetOff(Train it, boolean quarter, boolean warns, boolean letsOff) {
            if (warns) {
                it.warned = true;
            }
            if (letsOff && it.warned && silenceNow() != LOCKED) {
                letOffByHands(it, quarter);
                it.warned = false;
            }
        }

        /** The hour, or quarter, that was last is one before that which comes next. */
        void letOffByHands(Train it, boolean quarter) {
            int steps = quarter ? 4 : HOURS;
            int step = (nextPlace(quarter) + steps - 1) % steps;
            it.letGo(step, quarter && step == 3);
        }

        int run(Train it, int most, int now) {
            if (it.due == 0) {
                return 0;
            }
            int done = it.strike(most, silenceNow() == MUTE);
            if (it.heardStrokes > 0) {
                log.add(now, it);
            }
            if (it.due == 0 && it == quarterTrain && it.lifts) {
                liftHour();
            }
            return done;
        }

        private void liftHour() {
            if (hourTrain != null && silenceNow() != LOCKED) {
                letOffByHands(hourTrain, false);
            }
        }

        /** LASTING of the GOING WEIGHT; a SUM that is due for more STEPS still waits for a MINUTE. */
        int minutesLeft() {
            if (!goes) {
                return NONE;
            }
            if (going == 0) {
                return 0;
            }
            long perMinute = DAY_SECONDS + rate;
            if (perMinute <= 0) {
                return LAST_NOW + 1;
            }
            long way = (long) going * DAY_SECONDS - sum;
            long minutes = Math.max(1, (way + perMinute - 1) / perMinute);
            return (int) Math.min(minutes, LAST_NOW + 1);
        }
    }

    /** The latest entries, in a ring of columns. */
    private static final class Log {
        private final int[] when = new int[MOST_ENTRIES];
        private final int[] which = new int[MOST_ENTRIES];
        private final int[] strokes = new int[MOST_ENTRIES];
        private final int[] hammers = new int[MOST_ENTRIES];
        private int next;
        int size;

        void clear() {
            next = 0;
            size = 0;
        }

        void add(int now, Train it) {
            if (next < 0 || next >= MOST_ENTRIES) {
                return;
            }
            when[next] = now;
            which[next] = it.number;
            strokes[next] = it.heardStrokes;
            hammers[next] = it.heardHammers;
            next = next + 1 < MOST_ENTRIES ? next + 1 : 0;
            size = Math.min(size + 1, MOST_ENTRIES);
        }

        int entry(int i, int what) {
            if (i < 0 || i >= size || size > MOST_ENTRIES) {
                return NONE;
            }
            int at = Math.floorMod(next - 1 - i, MOST_ENTRIES);
            switch (what) {
                case 0: return when[at];
                case 1: return which[at];
                case 2: return strokes[at];
                default: return hammers[at];
            }
        }

        int strokesBetween(int a, int b) {
            int sum = 0;
            for (int i = 0; i < size && i < MOST_ENTRIES; i++) {
                if (when[i] >= a && when[i] <= b) {
                    sum += strokes[i];
                }
            }
            return sum;
        }
    }

    /** PUTTING RIGHT, and the acts of the latest. */
    private static final class Righting {
        private final int[] acts = new int[HOURS];
        int count;

        /**
         * The least strokes from the hour place that comes next to a told one. The PLATE never goes
         * back and every NOTCH strikes, so the acts A and B are together as many as it lacks; any
         * of them may be B. Either as many are B as the HANDS lack, or, where those are too few, the
         * HANDS go back all the way: anything between has more acts C.
         */
        int plan(Plate plate, int next, int told) {
            int plateLacks = Math.floorMod(told - plate.at, HOURS);
            int handsLack = Math.floorMod(told - next, HOURS);
            boolean enough = plateLacks >= handsLack;
            count = 0;
            add(BY_HAND, enough ? plateLacks - handsLack : plateLacks);
            add(HANDS_FORWARD, enough ? handsLack : 0);
            add(HANDS_BACK, enough ? 0 : HOURS - handsLack);
            int strokes = 0;
            for (int i = 0; i < plateLacks; i++) {
                strokes += plate.strokesRound(plate.at + i);
            }
            return strokes;
        }

        private void add(int act, int times) {
            for (int i = 0; i < times && count < acts.length; i++) {
                acts[count] = act;
                count++;
            }
        }

        int actAt(int i) {
            return i >= 0 && i < count && i < acts.length ? acts[i] : NONE;
        }
    }

    /** FAULTS against a HEARD ROW that was listened to. */
    private static final class FaultFinder {
        private final int[] heard = new int[MOST_BYTES];
        private int hour;
        int sort;
        int first;
        int second;
        int fewest;
        int fitting;

        static boolean isFault(int sort, int a, int b) {
            switch (sort) {
                case NO_FAULT: return true;
                case OUT: return a >= 1 && a < HOURS && b >= 0 && b < MOST_BYTES;
                case ONE_NOTCH: return isHour(a) && b >= 0 && b <= MOST_STROKES;
                case LOST: return a >= 1 && a < HOURS;
                case DEAF: return a >= 0 && a <= b && b < MOST_BYTES;
                default: return false;
            }
        }

        static int dueAt(int hour, int i, int sort, int a, int b) {
            int h = (hour - 1 + i) % HOURS + 1;
            switch (sort) {
                case OUT: return i < b ? h : (h - 1 + a) % HOURS + 1;
                case ONE_NOTCH: return h == a ? b : h;
                case LOST: return Math.max(h - a, 0);
                case DEAF: return i >= a && i <= b ? 0 : h;
                default: return h;
            }
        }

        /** Behind the ROW's end nobody listened. */
        void listen(Row row, int fromHour) {
            hour = fromHour;
            for (int i = 0; i < heard.length; i++) {
                heard[i] = row != null && i < row.size ? row.at(i) : -1;
            }
        }

        int misfitsOf(int sort, int a, int b) {
            int sum = 0;
            for (int i = 0; i < heard.length; i++) {
                sum += misfit(i, dueAt(hour, i, sort, a, b));
            }
            return sum;
        }

        int firstWithMore(int sort, int a, int b) {
            for (int i = 0; i < heard.length; i++) {
                if (heard[i] > dueAt(hour, i, sort, a, b)) {
                    return i;
                }
            }
            return NONE;
        }

        private int misfit(int i, int due) {
            if (i < 0 || i >= heard.length) {
                return 0;
            }
            return heard[i] >= 0 && heard[i] != due ? 1 : 0;
        }

        private int misfitOfNone(int i) {
            return misfit(i, dueAt(hour, i, NO_FAULT, 0, 0));
        }

        /**
         * Offers every FAULT, the least first, so that of alike ones the first stays. MISFITS go
         * from one FAULT to the next by the place in which the two differ, not anew by the ROW.
         */
        void search() {
            fitting = 0;
            fewest = MOST_BYTES + 1;
            int plain = misfitsOf(NO_FAULT, 0, 0);
            offer(NO_FAULT, 0, 0, plain);
            offerOut();
            offerNotches(plain);
            for (int d = 1; d < HOURS; d++) {
                offer(LOST, d, 0, misfitsOf(LOST, d, 0));
            }
            offerDeaf(plain);
        }

        private void offerOut() {
            for (int k = 1; k < HOURS; k++) {
                int sum = misfitsOf(OUT, k, 0);
                for (int s = 0; s < heard.length; s++) {
                    offer(OUT, k, s, sum);
                    sum += misfitOfNone(s) - misfit(s, dueAt(hour, s, OUT, k, 0));
                }
            }
        }

        private void offerNotches(int plain) {
            for (int g = 1; g <= HOURS; g++) {
                int others = plain - misfitsAtHour(g, g);
                for (int v = 0; v <= MOST_STROKES; v++) {
                    offer(ONE_NOTCH, g, v, others + misfitsAtHour(g, v));
                }
            }
        }

        private int misfitsAtHour(int g, int due) {
            int sum = 0;
            for (int i = Math.floorMod(g - hour, HOURS); i < heard.length; i += HOURS) {
                sum += misfit(i, due);
            }
            return sum;
        }

        private void offerDeaf(int plain) {
            for (int s = 0; s < heard.length; s++) {
                int sum = plain;
                for (int e = s; e < heard.length; e++) {
                    sum += misfit(e, 0) - misfitOfNone(e);
                    offer(DEAF, s, e, sum);
                }
            }
        }

        private void offer(int ofSort, int a, int b, int misfits) {
            if (misfits == 0) {
                fitting++;
            }
            if (misfits < fewest) {
                fewest = misfits;
                sort = ofSort;
                first = a;
                second = b;
            }
        }
    }

    /** WHEELS, and the GEARS that are NEAREST to a RATIO. */
    private static final class Gearing {
        private final int[] teeth = new int[MOST_WHEELS];
        int wheels;
        private final int[] chosen = new int[4];
        private int chosenCount;
        private long dueUpper;
        private long dueLower;
        private long leastGap;
        long upper = 0;
        long lower = 1;

        int add(int count) {
            if (wheels < 0 || wheels >= teeth.length) {
                return FULL;
            }
            teeth[wheels] = count;
            wheels++;
            return wheels - 1;
        }

        int chosenAt(int i) {
            return i >= 0 && i < chosenCount && i < chosen.length ? chosen[i] : NONE;
        }

        /** Goes through the GEARS by numbers, so that of alike ones the first stays. */
        void search(int u, int v, int pairs) {
            dueUpper = u;
            dueLower = v;
            chosenCount = 0;
            for (int a = 0; a < wheels; a++) {
                for (int b = 0; b < wheels; b++) {
                    if (a != b && pairs == 1) {
                        offer(a, b, NONE, NONE);
                    } else if (a != b) {
                        offerSecondPairs(a, b);
                    }
                }
            }
            reduce();
        }

        private void offerSecondPairs(int a, int b) {
            for (int c = 0; c < wheels; c++) {
                if (c == a || c == b) {
                    continue;
                }
                for (int d = 0; d < wheels; d++) {
                    if (d != a && d != b && d != c) {
                        offer(a, b, c, d);
                    }
                }
            }
        }

        /** Both gaps are by the same lower number of the RATIO, so that it needs no comparing. */
        private void offer(int a, int b, int c, int d) {
            long up = (long) teethOr1(a) * teethOr1(c);
            long low = (long) teethOr1(b) * teethOr1(d);
            long gap = Math.abs(up * dueLower - dueUpper * low);
            if (chosenCount > 0 && gap * lower >= leastGap * low) {
                return;
            }
            leastGap = gap;
            upper = up;
            lower = low;
            chosen[0] = a;
            chosen[1] = b;
            chosen[2] = c;
            chosen[3] = d;
            chosenCount = c == NONE ? 2 : 4;
        }

        private int teethOr1(int wheel) {
            return wheel >= 0 && wheel < teeth.length ? teeth[wheel] : 1;
        }

        private void reduce() {
            long a = upper;
            long b = lower;
            for (int i = 0; i < 100 && b > 0; i++) {
                long rest = a % b;
                a = b;
                b = rest;
            }
            if (a > 0) {
                upper = upper / a;
                lower = lower / a;
            }
        }
    }
}
