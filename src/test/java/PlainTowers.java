import java.util.ArrayList;
import java.util.Arrays;
import java.util.LinkedHashMap;
import java.util.List;
import java.util.Map;

/**
 * The document once more, in the slowest and plainest form, to hold the class to: days and WEIGHTS are told by letting
 * them go by, the best of many by trying all. It bears the calls' names; refusals are answered as in the class.
 */
public final class PlainTowers {
    private static final int BAD = -1, FULL = -2, FINDING = -3, STATE = -4, NONE = -9;
    private static final int NOTHING = 1, BEYOND = 2, UNLIKE = 3, NOUGHT = 4, SIZE = 5;

    private final byte[][] rows = new byte[8][];
    private final List<Work> works = new ArrayList<>();
    private final Place[] towers = new Place[4];
    private final List<Integer> wheels = new ArrayList<>();
    private int now, asked, finding;
    private long upper = 0, lower = 1;
    private final int[] findings = new int[6];
    private List<Integer> acts = new ArrayList<>();
    private List<Integer> chosen = new ArrayList<>();
    private int[] fault;

    /** A TRAIN of any KIND. */
    private static final class Work {
        int kind, at, pin, pace = 30, fall = 1000, weight = 1000, broken, due, struck, tower = NONE;
        int[] strokes = {}, pins = {};
        boolean warned, lifts;

        boolean isPlate() {
            return kind == 1 || kind == 3;
        }

        Work twin() {
            Work twin = new Work();
            twin.kind = kind;
            twin.at = at;
            twin.strokes = strokes;
            twin.pins = pins;
            twin.pin = pin;
            return twin;
        }

        void letOff(int step, int q) {
            if (kind == 0) {
                due += 1;
                lifts = q == 4;
            } else if (kind == 2) {
                due = strokes[step % strokes.length];
                lifts = q == 4;
            } else {
                due += strokes[at];
                lifts = at == strokes.length - 1;
                at = (at + 1) % strokes.length;
            }
        }
    }

    /** A TOWER. */
    private final class Place {
        int hands, rate, sum, going = 20000, from, to, sort;
        boolean goes = true;
        Work hour, quarter;
        final List<int[]> log = new ArrayList<>();

        Work in(boolean isQuarter) {
            return isQuarter ? quarter : hour;
        }

        int silent() {
            for (int h = from; h != to; h = (h + 1) % 24) {
                if (h == hands / 60) {
                    return sort + 1;
                }
            }
            return 0;
        }

        int hourNow() {
            int h = hands / 60;
            return h == 0 ? 12 : h > 12 ? h - 12 : h;
        }

        int quarterNow() {
            int minute = hands % 60;
            return minute < 15 ? 4 : minute < 30 ? 1 : minute < 45 ? 2 : 3;
        }

        void letOff(boolean isQuarter) {
            if (isQuarter) {
                quarter.letOff(quarterNow() - 1, quarterNow());
            } else {
                hour.letOff(hourNow() - 1, 0);
            }
        }

        void step() {
            hands = hands == 1439 ? 0 : hands + 1;
            int minute = hands % 60;
            if (quarter != null) {
                if (minute == 10 || minute == 25 || minute == 40 || minute == 55) {
                    quarter.warned = true;
                }
                if ((minute == 15 || minute == 30 || minute == 45 || minute == 0) && quarter.warned && silent() != 2) {
                    letOff(true);
                    quarter.warned = false;
                }
            } else if (hour != null) {
                if (minute == 55) {
                    hour.warned = true;
                }
                if (minute == 0 && hour.warned && silent() != 2) {
                    letOff(false);
                    hour.warned = false;
                }
            }
        }

        void goOn() {
            if (goes && going > 0) {
                sum += 86400 + rate;
                while (sum >= 86400 && going > 0) {
                    sum -= 86400;
                    going--;
                    step();
                }
            }
        }

        int run(boolean isQuarter, int most) {
            Work work = in(isQuarter);
            int done = 0, heard = 0, hammers = 0;
            while (work != null && done < most && work.due > 0 && work.weight > 0) {
                int lifted = work.kind == 3 ? work.pins[work.pin] : 1;
                work.pin = work.kind == 3 ? (work.pin + 1) % work.pins.length : 0;
                work.due--;
                work.weight--;
                work.struck++;
                done++;
                if ((lifted & ~work.broken) != 0 && silent() != 1) {
                    heard++;
                    hammers |= lifted & ~work.broken;
                }
            }
            if (heard > 0) {
                log.add(0, new int[] {now, works.indexOf(work), heard, hammers});
                if (log.size() > 60) {
                    log.remove(60);
                }
            }
            if (done > 0 && work.due == 0 && isQuarter && work.lifts && hour != null && silent() != 2) {
                letOff(false);
            }
            return done;
        }

        /** The hour or quarter that comes next, by stepping on to it. */
        int nextPlace(boolean isQuarter) {
            int m = hands;
            do {
                m = (m + 1) % 1440;
            } while (m % (isQuarter ? 15 : 60) != 0);
            int h = m / 60 % 12 == 0 ? 12 : m / 60 % 12;
            int q = m % 60 == 0 ? 4 : m % 60 / 15;
            return isQuarter ? q - 1 : h - 1;
        }
    }

    private int found(int which) {
        finding = which;
        findings[which]++;
        return FINDING;
    }

    private static boolean out(int v, int from, int to) {
        return v < from || v > to;
    }

    private boolean noWork(int train) {
        return out(train, 0, works.size() - 1);
    }

    private static boolean noTower(int t) {
        return out(t, 0, 3);
    }

    private static boolean noRow(int r) {
        return out(r, 0, 7);
    }

    // ---- 1 rows, trains

    public int row(int r, int n) {
        if (noRow(r) || n > 48) {
            return BAD;
        }
        if (n < 0) {
            return found(SIZE);
        }
        rows[r] = new byte[n];
        return n;
    }

    public int lay(int r, int i, int v) {
        if (noRow(r)) {
            return BAD;
        }
        if (rows[r] == null) {
            return found(NOTHING);
        }
        if (out(i, 0, rows[r].length - 1)) {
            return found(BEYOND);
        }
        int was = rows[r][i];
        rows[r][i] = (byte) v;
        return was + 1000;
    }

    public int tear(int r) {
        if (noRow(r)) {
            return BAD;
        }
        if (rows[r] == null) {
            return found(NOTHING);
        }
        rows[r] = null;
        return 1;
    }

    public int copy(int r, int i, int to, int j, int n) {
        if (noRow(r) || noRow(to)) {
            return BAD;
        }
        if (n < 0) {
            return found(SIZE);
        }
        if (rows[r] == null || rows[to] == null) {
            return found(NOTHING);
        }
        if (i < 0 || j < 0 || (long) i + n > rows[r].length || (long) j + n > rows[to].length) {
            return found(BEYOND);
        }
        byte[] taken = Arrays.copyOfRange(rows[r], i, i + n);
        for (int k = 0; k < n; k++) {
            rows[to][j + k] = taken[k];
        }
        return 1;
    }

    private int add(int kind, int r, int pins) {
        if (kind != 0 && noRow(r) || kind == 3 && noRow(pins)) {
            return BAD;
        }
        if (works.size() == 16) {
            return FULL;
        }
        Work work = new Work();
        work.kind = kind;
        if (kind != 0) {
            if (rows[r] == null || kind == 3 && rows[pins] == null) {
                return found(NOTHING);
            }
            boolean wrong = out(rows[r].length, 1, 24) || kind == 3 && rows[pins].length == 0;
            for (byte b : rows[r]) {
                wrong |= out(b, 1, 24);
            }
            if (wrong) {
                return found(SIZE);
            }
            work.strokes = new int[rows[r].length];
            Arrays.setAll(work.strokes, i -> rows[r][i]);
            work.pins = new int[kind == 3 ? rows[pins].length : 0];
            Arrays.setAll(work.pins, i -> rows[pins][i] & 255);
        }
        works.add(work);
        return works.size() - 1;
    }

    public int train() {
        return add(0, 0, 0);
    }

    public int plate(int r) {
        return add(1, r, 0);
    }

    public int snail(int r) {
        return add(2, r, 0);
    }

    public int barrel(int r, int pins) {
        return add(3, r, pins);
    }

    public int gear(int train, int pace, int fall) {
        if (noWork(train) || out(pace, 1, 60) || out(fall, 0, 100000)) {
            return BAD;
        }
        Work work = works.get(train);
        int was = work.weight;
        work.pace = pace;
        work.fall = fall;
        work.weight = fall;
        return was;
    }

    public int wind(int train) {
        if (noWork(train)) {
            return BAD;
        }
        Work work = works.get(train);
        int more = work.fall - work.weight;
        work.weight += more;
        return more;
    }

    public int broken(int train, int hammers) {
        if (noWork(train) || out(hammers, 0, 255)) {
            return BAD;
        }
        int were = works.get(train).broken;
        works.get(train).broken = hammers;
        return were;
    }

    public int told(int train, int what) {
        if (noWork(train) || out(what, 0, 7)) {
            return BAD;
        }
        Work work = works.get(train);
        return new int[] {work.kind, work.strokes.length, work.isPlate() ? work.at : NONE, work.pace, work.weight, work.due,
            work.tower, work.struck}[what];
    }

    public int mark(int train, int kind) {
        if (noWork(train) || out(kind, 1, 3)) {
            return BAD;
        }
        Work work = works.get(train);
        if (kind == 1 && work.isPlate()) {
            return Arrays.stream(work.strokes).sum();
        }
        if (kind == 2 && work.kind == 2) {
            return Arrays.stream(work.strokes).max().getAsInt();
        }
        return kind == 3 && work.kind == 3 ? work.pin : found(UNLIKE);
    }

    public int notch(int train, int i) {
        if (noWork(train)) {
            return BAD;
        }
        Work work = works.get(train);
        if (work.kind == 0) {
            return found(UNLIKE);
        }
        return out(i, 0, work.strokes.length - 1) ? found(BEYOND) : work.strokes[i];
    }

    public int cut(int train, int i, int v) {
        if (noWork(train) || out(v, 1, 24)) {
            return BAD;
        }
        int were = notch(train, i);
        if (were > 0) {
            works.get(train).strokes[i] = v;
        }
        return were;
    }

    public int put(int train, int i) {
        if (noWork(train)) {
            return BAD;
        }
        Work work = works.get(train);
        if (!work.isPlate()) {
            return found(UNLIKE);
        }
        if (out(i, 0, work.strokes.length - 1)) {
            return found(BEYOND);
        }
        int stood = work.at;
        work.at = i;
        return stood;
    }

    public int mean(int train) {
        if (noWork(train)) {
            return BAD;
        }
        Work work = works.get(train);
        return work.kind == 0 ? found(NOUGHT) : Arrays.stream(work.strokes).sum() / work.strokes.length;
    }

    // ---- 2 towers

    public int tower(int t) {
        if (noTower(t)) {
            return BAD;
        }
        boolean was = towers[t] != null;
        for (Work work : works) {
            if (work.tower == t) {
                work.tower = NONE;
            }
        }
        towers[t] = new Place();
        return was ? 1 : 0;
    }

    public int hang(int t, int train, boolean quarter) {
        if (noTower(t) || noWork(train)) {
            return BAD;
        }
        if (towers[t] == null) {
            return found(NOTHING);
        }
        Work work = works.get(train);
        if (work.tower != NONE) {
            return STATE;
        }
        int was = free(towers[t], quarter);
        work.tower = t;
        work.warned = false;
        work.due = 0;
        if (quarter) {
            towers[t].quarter = work;
        } else {
            towers[t].hour = work;
        }
        return was;
    }

    private int free(Place place, boolean quarter) {
        Work work = place.in(quarter);
        if (work == null) {
            return NONE;
        }
        work.tower = NONE;
        if (quarter) {
            place.quarter = null;
        } else {
            place.hour = null;
        }
        return works.indexOf(work);
    }

    public int unhang(int t, boolean quarter) {
        if (noTower(t)) {
            return BAD;
        }
        return towers[t] == null || towers[t].in(quarter) == null ? found(NOTHING) : free(towers[t], quarter);
    }

    public int hands(int t, int minute) {
        if (noTower(t) || out(minute, 0, 1439)) {
            return BAD;
        }
        if (towers[t] == null) {
            return found(NOTHING);
        }
        int were = towers[t].hands;
        towers[t].hands = minute;
        return were;
    }

    public int forward(int t, int n) {
        if (noTower(t) || out(n, 0, 1500)) {
            return BAD;
        }
        if (towers[t] == null) {
            return found(NOTHING);
        }
        for (int i = 0; i < n; i++) {
            towers[t].step();
        }
        return towers[t].hands;
    }

    public int back(int t, int n) {
        if (noTower(t) || out(n, 0, 1500)) {
            return BAD;
        }
        if (towers[t] == null) {
            return found(NOTHING);
        }
        for (int i = 0; i < n; i++) {
            towers[t].hands = towers[t].hands == 0 ? 1439 : towers[t].hands - 1;
        }
        return towers[t].hands;
    }

    public int rate(int t, int seconds) {
        if (noTower(t) || out(seconds, -3600, 3600)) {
            return BAD;
        }
        if (towers[t] == null) {
            return found(NOTHING);
        }
        int was = towers[t].rate;
        towers[t].rate = seconds;
        return was;
    }

    public int go(int t, boolean is) {
        if (noTower(t)) {
            return BAD;
        }
        if (towers[t] == null) {
            return found(NOTHING);
        }
        int went = towers[t].goes ? 1 : 0;
        towers[t].goes = is;
        return went;
    }

    public int windGoing(int t, int n) {
        if (noTower(t) || out(n, 0, 100000)) {
            return BAD;
        }
        if (towers[t] == null) {
            return found(NOTHING);
        }
        int was = towers[t].going;
        towers[t].going = n;
        return was;
    }

    public int silence(int t, int a, int b, int sort) {
        if (noTower(t) || out(a, 0, 23) || out(b, 0, 23) || out(sort, 0, 1)) {
            return BAD;
        }
        if (towers[t] == null) {
            return found(NOTHING);
        }
        towers[t].from = a;
        towers[t].to = b;
        towers[t].sort = sort;
        return 1;
    }

    public int letOff(int t, boolean quarter) {
        if (noTower(t)) {
            return BAD;
        }
        if (towers[t] == null || towers[t].in(quarter) == null) {
            return found(NOTHING);
        }
        towers[t].letOff(quarter);
        return towers[t].in(quarter).due;
    }

    public int runOut(int t, boolean quarter) {
        if (noTower(t)) {
            return BAD;
        }
        if (towers[t] == null || towers[t].in(quarter) == null) {
            return found(NOTHING);
        }
        return towers[t].run(quarter, Integer.MAX_VALUE);
    }

    public int pass(int n) {
        if (out(n, 0, 3000)) {
            return BAD;
        }
        if (now + n > 1000000) {
            return FULL;
        }
        for (int i = 0; i < n; i++) {
            for (Place place : towers) {
                if (place != null) {
                    place.goOn();
                    place.run(true, place.quarter == null ? 0 : place.quarter.pace);
                    place.run(false, place.hour == null ? 0 : place.hour.pace);
                }
            }
            now++;
        }
        return now;
    }

    public int tells(int t, int what) {
        if (noTower(t) || out(what, 0, 8)) {
            return BAD;
        }
        Place place = towers[t];
        if (place == null) {
            return found(NOTHING);
        }
        Work h = place.hour;
        Work q = place.quarter;
        return new int[] {place.hands, place.sum, place.going, place.goes ? 1 : 0, h == null ? NONE : works.indexOf(h),
            q == null ? NONE : works.indexOf(q), h != null && h.warned ? 1 : 0, q != null && q.warned ? 1 : 0,
            place.silent()}[what];
    }

    public int log(int t, int i, int what) {
        if (noTower(t) || out(what, 0, 3)) {
            return BAD;
        }
        if (towers[t] == null) {
            return found(NOTHING);
        }
        return out(i, 0, towers[t].log.size() - 1) ? NONE : towers[t].log.get(i)[what];
    }

    public int heard(int t, int a, int b) {
        if (noTower(t) || a < 0 || b < 0 || a > b) {
            return BAD;
        }
        if (towers[t] == null) {
            return found(NOTHING);
        }
        return towers[t].log.stream().filter(entry -> !out(entry[0], a, b)).mapToInt(entry -> entry[2]).sum();
    }

    public int ahead(int t, int u) {
        if (noTower(t) || noTower(u)) {
            return BAD;
        }
        if (towers[t] == null || towers[u] == null) {
            return found(NOTHING);
        }
        int by = towers[t].hands - towers[u].hands;
        return by > 720 ? by - 1440 : by < -719 ? by + 1440 : by;
    }

    /** Tried by halves: once the one behind is level, it stays so or ahead. */
    public int meet(int t, int u) {
        if (noTower(t) || noTower(u)) {
            return BAD;
        }
        if (towers[t] == null || towers[u] == null) {
            return found(NOTHING);
        }
        if (!towers[t].goes || !towers[u].goes) {
            return STATE;
        }
        Place slow = towers[t].rate < towers[u].rate ? towers[t] : towers[u];
        Place fast = slow == towers[t] ? towers[u] : towers[t];
        long round = 1440L * 86400;
        long way = (slow.hands * 86400L + slow.sum - fast.hands * 86400L - fast.sum) % round;
        way = way < 0 ? way + round : way;
        if (way == 0) {
            return 0;
        }
        if (slow.rate == fast.rate) {
            return NONE;
        }
        int least = 1;
        int most = (int) round;
        while (least < most) {
            int half = (least + most) / 2;
            if ((long) half * (fast.rate - slow.rate) >= way) {
                most = half;
            } else {
                least = half + 1;
            }
        }
        return least;
    }

    // ---- 3 right and wrong

    public int right(int t, boolean quarter) {
        int off = off(t, quarter);
        return off < 0 ? off : off == 0 ? 1 : 0;
    }

    public int off(int t, boolean quarter) {
        if (noTower(t)) {
            return BAD;
        }
        if (towers[t] == null || towers[t].in(quarter) == null) {
            return found(NOTHING);
        }
        Work work = towers[t].in(quarter);
        if (!work.isPlate()) {
            return found(UNLIKE);
        }
        int notches = work.strokes.length;
        int off = 0;
        while ((towers[t].nextPlace(quarter) + off) % notches != work.at) {
            off++;
        }
        return off;
    }

    /** Goes through all hours and NOTCHES by strokes, then acts, then the row of acts. */
    public int putRight(int t, int hour) {
        if (noTower(t) || out(hour, 1, 12)) {
            return BAD;
        }
        if (towers[t] == null || towers[t].hour == null) {
            return found(NOTHING);
        }
        Work work = towers[t].hour;
        if (!work.isPlate() || work.strokes.length != 12) {
            return found(UNLIKE);
        }
        Map<Integer, String> open = new LinkedHashMap<>();
        String[] done = new String[144];
        open.put(towers[t].nextPlace(false) * 12 + work.at, "00000 00 ");
        int told = (hour - 1) * 13;
        while (done[told] == null) {
            int least = open.entrySet().stream().min(Map.Entry.comparingByValue()).get().getKey();
            String row = open.remove(least);
            done[least] = row;
            int h = least / 12;
            int at = least % 12;
            offer(open, done, h * 12 + (at + 1) % 12, row, work.strokes[at], 'A');
            offer(open, done, (h + 1) % 12 * 12 + (at + 1) % 12, row, work.strokes[at], 'B');
            offer(open, done, (h + 11) % 12 * 12 + at, row, 0, 'C');
        }
        acts = new ArrayList<>();
        done[told].substring(9).chars().forEach(sign -> acts.add(sign - 'A'));
        asked = acts.size();
        return Integer.parseInt(done[told].substring(0, 5));
    }

    private static void offer(Map<Integer, String> open, String[] done, int to, String row, int strokes, char act) {
        int all = Integer.parseInt(row.substring(0, 5)) + strokes;
        int count = Integer.parseInt(row.substring(6, 8)) + 1;
        String offered = String.format("%05d %02d %s%c", all, count, row.substring(9), act);
        if (done[to] == null && (open.get(to) == null || offered.compareTo(open.get(to)) < 0)) {
            open.put(to, offered);
        }
    }

    public int act(int i) {
        return out(i, 0, acts.size() - 1) ? NONE : acts.get(i);
    }

    private static boolean noFault(int sort, int a, int b) {
        return out(sort, 0, 4) || sort == 1 && (out(a, 1, 11) || out(b, 0, 47)) || sort == 2 && (out(a, 1, 12) || out(b, 0, 24))
            || sort == 3 && out(a, 1, 11) || sort == 4 && (out(a, 0, 47) || out(b, 0, 47) || a > b);
    }

    public int due(int hour, int i, int sort, int a, int b) {
        if (out(hour, 1, 12) || out(i, 0, 47) || noFault(sort, a, b)) {
            return BAD;
        }
        int h = hour + i;
        while (h > 12) {
            h -= 12;
        }
        if (sort == 1 && i >= b) {
            return h + a > 12 ? h + a - 12 : h + a;
        }
        if (sort == 2 && h == a) {
            return b;
        }
        if (sort == 3) {
            return h > a ? h - a : 0;
        }
        return sort == 4 && !out(i, a, b) ? 0 : h;
    }

    public int misfits(int r, int hour, int sort, int a, int b) {
        if (noRow(r) || out(hour, 1, 12) || noFault(sort, a, b)) {
            return BAD;
        }
        return rows[r] == null ? found(NOTHING) : misfitsOf(rows[r], hour, sort, a, b);
    }

    private int misfitsOf(byte[] row, int hour, int sort, int a, int b) {
        int n = 0;
        for (int i = 0; i < row.length; i++) {
            n += row[i] >= 0 && row[i] != due(hour, i, sort, a, b) ? 1 : 0;
        }
        return n;
    }

    private static List<int[]> allFaults() {
        List<int[]> all = new ArrayList<>();
        for (int sort = 0; sort <= 4; sort++) {
            for (int a = 0; a <= 47; a++) {
                for (int b = 0; b <= 47; b++) {
                    boolean again = sort == 0 && a + b > 0 || sort == 3 && b > 0;
                    if (!again && !noFault(sort, a, b)) {
                        all.add(new int[] {sort, a, b});
                    }
                }
            }
        }
        return all;
    }

    public int fault(int r, int hour) {
        if (noRow(r) || out(hour, 1, 12)) {
            return BAD;
        }
        if (rows[r] == null) {
            return found(NOTHING);
        }
        int fewest = 99;
        for (int[] one : allFaults()) {
            int misfits = misfitsOf(rows[r], hour, one[0], one[1], one[2]);
            if (misfits < fewest) {
                fewest = misfits;
                fault = one;
            }
        }
        asked = fewest;
        return fault[0];
    }

    public int faultTold(boolean other) {
        if (fault == null || fault[0] == 0 || other && fault[0] == 3) {
            return NONE;
        }
        return fault[other ? 2 : 1];
    }

    public int explained(int r, int hour) {
        if (noRow(r) || out(hour, 1, 12)) {
            return BAD;
        }
        if (rows[r] == null) {
            return found(NOTHING);
        }
        return (int) allFaults().stream().filter(f -> misfitsOf(rows[r], hour, f[0], f[1], f[2]) == 0).count();
    }

    public int windy(int r, int hour, int sort, int a, int b) {
        if (noRow(r) || out(hour, 1, 12) || noFault(sort, a, b)) {
            return BAD;
        }
        if (rows[r] == null) {
            return found(NOTHING);
        }
        for (int i = 0; i < rows[r].length; i++) {
            if (rows[r][i] > due(hour, i, sort, a, b)) {
                asked = i;
                return 0;
            }
        }
        return 1;
    }

    // ---- 4 wheels, lasting

    public int wheel(int teeth) {
        if (out(teeth, 6, 200)) {
            return BAD;
        }
        if (wheels.size() == 12) {
            return FULL;
        }
        wheels.add(teeth);
        return wheels.size() - 1;
    }

    public int nearest(int u, int v, int n) {
        if (out(u, 1, 10000) || out(v, 1, 10000) || out(n, 1, 2)) {
            return BAD;
        }
        if (wheels.size() < 2 * n) {
            return found(NOUGHT);
        }
        List<List<Integer>> gears = new ArrayList<>();
        pick(gears, new ArrayList<>(), 2 * n);
        List<Integer> best = null;
        for (List<Integer> gear : gears) {
            if (best == null || nearer(gear, best, u, v)) {
                best = gear;
            }
        }
        chosen = best;
        long up = product(best, 0);
        long low = product(best, 1);
        long part = Math.min(up, low);
        while (up % part != 0 || low % part != 0) {
            part--;
        }
        upper = up / part;
        lower = low / part;
        return 1;
    }

    private void pick(List<List<Integer>> gears, List<Integer> taken, int more) {
        if (more == 0) {
            gears.add(new ArrayList<>(taken));
            return;
        }
        for (int i = 0; i < wheels.size(); i++) {
            if (!taken.contains(i)) {
                taken.add(i);
                pick(gears, taken, more - 1);
                taken.remove(taken.size() - 1);
            }
        }
    }

    private long product(List<Integer> gear, int from) {
        long all = 1;
        for (int i = from; i < gear.size(); i += 2) {
            all *= wheels.get(gear.get(i));
        }
        return all;
    }

    private boolean nearer(List<Integer> gear, List<Integer> than, int u, int v) {
        long gap = Math.abs(product(gear, 0) * v - u * product(gear, 1));
        long gapThan = Math.abs(product(than, 0) * v - u * product(than, 1));
        return gap * product(than, 1) < gapThan * product(gear, 1);
    }

    public int chosen(int i) {
        return out(i, 0, chosen.size() - 1) ? NONE : chosen.get(i);
    }

    /** A day goes by of a TOWER that has the TRAIN's twin alone; what was DUE behind each STEP is struck. */
    private static int strokesOfADay(PlainTowers other, Work twin, boolean quarter) {
        other.tower(0);
        other.works.clear();
        other.works.add(twin);
        twin.tower = NONE;
        other.hang(0, 0, quarter);
        int strokes = 0;
        for (int i = 0; i < 1440; i++) {
            other.forward(0, 1);
            strokes += twin.due;
            twin.due = 0;
        }
        return strokes;
    }

    public int daily(int train, boolean quarter) {
        return noWork(train) ? BAD : strokesOfADay(new PlainTowers(), works.get(train).twin(), quarter);
    }

    public int lasting(int t) {
        if (noTower(t)) {
            return BAD;
        }
        if (towers[t] == null) {
            return found(NOTHING);
        }
        if (!towers[t].goes) {
            return NONE;
        }
        Place twin = new Place();
        twin.sum = towers[t].sum;
        twin.rate = towers[t].rate;
        twin.going = towers[t].going;
        int minutes = 0;
        while (twin.going > 0 && minutes <= 1000000) {
            twin.goOn();
            minutes++;
        }
        return minutes;
    }

    public int lastingDays(int train, boolean quarter) {
        if (noWork(train)) {
            return BAD;
        }
        Work twin = works.get(train).twin();
        PlainTowers other = new PlainTowers();
        int left = works.get(train).weight;
        int days = -1;
        while (left >= 0) {
            days++;
            left -= strokesOfADay(other, twin, quarter);
        }
        return days;
    }

    // ---- 5 what is told

    public int asked() {
        return asked;
    }

    public long upper() {
        return upper;
    }

    public long lower() {
        return lower;
    }

    public int count(int what) {
        if (out(what, 0, 5)) {
            return BAD;
        }
        long there = Arrays.stream(towers).filter(place -> place != null).count();
        long laid = Arrays.stream(rows).filter(row -> row != null).count();
        int struck = works.stream().mapToInt(work -> work.struck).sum();
        return new int[] {now, works.size(), (int) there, wheels.size(), (int) laid, struck}[what];
    }

    public int finding() {
        return finding;
    }

    public int findings(int f) {
        return out(f, 1, 5) ? BAD : findings[f];
    }

    public long digest() {
        List<Integer> all = new ArrayList<>();
        all.add(now);
        for (int i = 0; i < works.size(); i++) {
            for (int what = 0; what <= 7; what++) {
                all.add(told(i, what));
            }
            Arrays.stream(works.get(i).strokes).forEach(all::add);
            Arrays.stream(works.get(i).pins).forEach(all::add);
            if (works.get(i).kind == 3) {
                all.add(works.get(i).pin);
            }
        }
        for (int t = 0; t < 4; t++) {
            for (int what = 0; what <= 8 && towers[t] != null; what++) {
                all.add(tells(t, what));
            }
            all.add(towers[t] == null ? -1 : towers[t].log.size());
            for (int what = 0; what <= 3 && towers[t] != null; what++) {
                all.add(Math.max(0, log(t, 0, what)));
            }
        }
        for (byte[] row : rows) {
            all.add(row == null ? -1 : row.length);
            for (int i = 0; row != null && i < row.length; i++) {
                all.add((int) row[i]);
            }
        }
        long h = 17;
        for (int v : all) {
            h = 31 * h + v;
        }
        return h;
    }
}
