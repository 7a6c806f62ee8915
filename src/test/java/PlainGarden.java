import java.math.BigInteger;
import java.util.ArrayList;
import java.util.Arrays;
import java.util.List;

/**
 * The document written down once more, as slowly and as near to its words as can be: numbers without
 * bounds, nothing kept that could be worked out, a copy of the whole garden ahead of each change.
 * RunsTest holds the answers of DialGarden against the answers of this.
 */
final class PlainGarden {
    static final int BAD = -2000000001, NO = -2000000002, FULL = -2000000003, NONE = -2000000005;

    /** A PLACE's holding: of a HOUSE {1, x1, y1, x2, y2, height}, of a DIAL {2 + kind, x, y, rod, g, t, left ..}. */
    private int[][] places = new int[40][];
    private final List<int[][]> gardens = new ArrayList<>();
    private final List<Integer> changed = new ArrayList<>();
    private int latitude = 8192;
    private List<Integer> corrections = new ArrayList<>();
    private final List<int[]> sights = new ArrayList<>();
    private List<Integer> turns = new ArrayList<>();

    private static BigInteger big(long n) {
        return BigInteger.valueOf(n);
    }

    private static BigInteger divide(BigInteger a, BigInteger b) {
        BigInteger[] both = a.divideAndRemainder(b);
        boolean down = both[1].signum() != 0 && both[1].signum() != b.signum();
        return down ? both[0].subtract(BigInteger.ONE) : both[0];
    }

    private static long divide(long a, long b) {
        return Math.floorDiv(a, b);
    }

    private static boolean bounds(long n, long least, long greatest) {
        return least <= n && n <= greatest;
    }

    private static long sineOf(long angle) {
        long a = angle - 65536 * divide(angle, 65536);
        if (a >= 32768) return 0 - sineOf(a - 32768);
        long q = a * (32768 - a);
        return divide(65536 * q, 1342177280 - q);
    }

    private static long cosineOf(long angle) {
        return sineOf(angle + 16384);
    }

    private static long dot(long x, long y) {
        return divide(x * y, 16384);
    }

    private int correctionOf(int day) {
        return day < corrections.size() ? corrections.get(day) : 0;
    }

    private static long slopeOf(int day) {
        return dot(4267, sineOf(divide(65536L * (day - 80), 366)));
    }

    private long turnOf(int day, int minute) {
        return divide(2048L * (minute + correctionOf(day) - 720), 45);
    }

    /** EAST, NORTH, UP. */
    private long[] sunOf(int day, int minute) {
        long fs = sineOf(latitude), fc = cosineOf(latitude);
        long ds = sineOf(slopeOf(day)), dc = cosineOf(slopeOf(day));
        long hs = sineOf(turnOf(day, minute)), hc = cosineOf(turnOf(day, minute));
        return new long[] {
            0 - dot(dc, hs), dot(fc, ds) - dot(dot(fs, dc), hc), dot(fs, ds) + dot(dot(fc, dc), hc)};
    }

    private static boolean isDial(int[] thing) {
        return thing != null && thing[0] >= 2;
    }

    private static boolean isHouse(int[] thing) {
        return thing != null && thing[0] == 1;
    }

    private static boolean isKindOf(int[] thing, int kind) {
        if (!isDial(thing)) return false;
        int own = thing[0] - 2;
        if (own == kind || kind == 0) return true;
        if (own == 2) return kind == 1;
        if (own == 4) return kind == 1 || kind == 2;
        return false;
    }

    private static long[][] rowsOf(int[] dial, long g) {
        if (!isKindOf(dial, 1)) return new long[][] {{0, 0, 16384}, {16384, 0, 0}, {0, 16384, 0}};
        long gs = sineOf(g), gc = cosineOf(g);
        if (!isKindOf(dial, 2)) return new long[][] {{gs, gc, 0}, {gc, 0 - gs, 0}, {0, 0, 16384}};
        long ts = sineOf(dial[5]), tc = cosineOf(dial[5]);
        return new long[][] {
            {dot(ts, gs), dot(ts, gc), tc}, {gc, 0 - gs, 0}, {0 - dot(tc, gs), 0 - dot(tc, gc), ts}};
    }

    private static BigInteger sunBy(long[] sun, long[] row) {
        BigInteger all = BigInteger.ZERO;
        for (int i = 0; i < 3; i++) all = all.add(big(sun[i]).multiply(big(row[i])));
        return all;
    }

    private static boolean hidesSun(int[] house, int[] dial, long[] sun) {
        long px = house[1] - dial[1], py = house[2] - dial[2], qx = house[3] - dial[1], qy = house[4] - dial[2];
        BigInteger c = big(sun[0]).multiply(big(py)).subtract(big(sun[1]).multiply(big(px)));
        BigInteger e = big(sun[0]).multiply(big(qy)).subtract(big(sun[1]).multiply(big(qx)));
        BigInteger w = e.subtract(c);
        BigInteger k = big(px).multiply(big(qy)).subtract(big(py).multiply(big(qx)));
        if (w.signum() < 0) {
            w = w.negate();
            k = k.negate();
        }
        boolean apart = !(c.signum() > 0 && e.signum() > 0) && !(c.signum() < 0 && e.signum() < 0);
        boolean low = big(sun[2]).multiply(k).compareTo(big(house[5]).multiply(w)) < 0;
        return w.signum() != 0 && apart && k.signum() > 0 && low;
    }

    private int hiderOf(int[] dial, long[] sun) {
        for (int i = 0; i < 40; i++) if (isHouse(places[i]) && hidesSun(places[i], dial, sun)) return i;
        return NONE;
    }

    private static BigInteger[] endOf(int[] dial, long g, long[] sun) {
        if (isKindOf(dial, 3)) {
            int height = 0;
            for (int a = 0; a <= 16384; a++) if (sineOf(a) <= sun[2]) height = a;
            return new BigInteger[] {big(2L * height), big(sun[0] >= 0 ? 0 : 1)};
        }
        long[][] rows = rowsOf(dial, g);
        BigInteger byFace = sunBy(sun, rows[0]), rod = big(dial[3]);
        return new BigInteger[] {
            divide(rod.multiply(sunBy(sun, rows[1])).negate(), byFace),
            divide(rod.multiply(sunBy(sun, rows[2])).negate(), byFace)};
    }

    /** The STATE, then THE END if it is 0. */
    private long[] stateOf(int[] dial, long g, int day, int minute) {
        long[] sun = sunOf(day, minute);
        if (sun[2] <= 0) return new long[] {1};
        if (sunBy(sun, rowsOf(dial, g)[0]).signum() <= 0) return new long[] {2};
        if (hiderOf(dial, sun) != NONE) return new long[] {3};
        BigInteger[] end = endOf(dial, g, sun);
        for (BigInteger number : end) if (number.abs().compareTo(big(1000000)) > 0) return new long[] {4};
        return new long[] {0, end[0].longValueExact(), end[1].longValueExact()};
    }

    private long[] stateOf(int[] dial, int day, int minute) {
        return stateOf(dial, dial[4], day, minute);
    }

    /** Rows of HOUR and END. */
    private List<long[]> marksOf(int[] dial, int day) {
        List<long[]> marks = new ArrayList<>();
        for (int hour = 0; hour < 24; hour++) {
            long[] state = stateOf(dial, day, 60 * hour);
            if (dial[6 + hour] == 1 && state[0] == 0) marks.add(new long[] {hour, state[1], state[2]});
        }
        return marks;
    }

    /** H, K, THE SHOWN, or null. */
    private long[] readingOf(int[] dial, List<long[]> all, int day, int minute) {
        long[] s = stateOf(dial, day, minute);
        if (s[0] != 0) return null;
        List<long[]> marks = new ArrayList<>();
        for (long[] mark : all) if (!isKindOf(dial, 3) || mark[2] == s[2]) marks.add(mark);
        for (int i = 0; i + 1 < marks.size(); i++) {
            long[] a = marks.get(i), b = marks.get(i + 1);
            BigInteger dx = big(b[1] - a[1]), dy = big(b[2] - a[2]);
            BigInteger n = dx.multiply(dx).add(dy.multiply(dy));
            BigInteger r = big(s[1] - a[1]).multiply(dx).add(big(s[2] - a[2]).multiply(dy));
            if (r.signum() < 0 || r.compareTo(n) >= 0) continue;
            long more = divide(big(60 * (b[0] - a[0])).multiply(r), n).longValueExact();
            return new long[] {a[0], b[0], 60 * a[0] + more};
        }
        return null;
    }

    private List<int[]> stretchesOf(int[] dial, int day) {
        List<int[]> all = new ArrayList<>();
        for (int m = 0; m < 1440; m++) {
            if (stateOf(dial, day, m)[0] != 0) continue;
            int[] last = all.isEmpty() ? null : all.get(all.size() - 1);
            if (last != null && last[1] == m - 1) last[1] = m;
            else all.add(new int[] {m, m});
        }
        return all;
    }

    private boolean agrees(int[] dial, int u) {
        for (int[] sight : sights) {
            long[] state = stateOf(dial, dial[4] + u, sight[0], sight[1]);
            if (state[0] != 0) return false;
            if (Math.abs(state[1] - sight[2]) > 1 || Math.abs(state[2] - sight[3]) > 1) return false;
        }
        return true;
    }

    private void change(int place, int[] thing) {
        int[][] before = new int[40][];
        for (int i = 0; i < 40; i++) before[i] = places[i] == null ? null : places[i].clone();
        gardens.add(before);
        changed.add(place);
        if (gardens.size() > 16) {
            gardens.remove(0);
            changed.remove(0);
        }
        places[place] = thing;
    }

    private static boolean isPlace(int place) {
        return bounds(place, 0, 39);
    }

    private static boolean isSpot(int x, int y) {
        return bounds(x, -10000, 10000) && bounds(y, -10000, 10000);
    }

    private static boolean isTime(int day, int minute) {
        return bounds(day, 0, 365) && bounds(minute, 0, 1439);
    }

    int sine(int a) {
        return (int) sineOf(a);
    }

    int latitude(int f) {
        if (!bounds(f, -16384, 16384)) return BAD;
        int was = latitude;
        latitude = f;
        return was;
    }

    int corrections(int n) {
        if (!bounds(n, 0, 366)) return BAD;
        corrections = new ArrayList<>();
        for (int i = 0; i < n; i++) corrections.add(0);
        return n;
    }

    int correct(int d, int v) {
        if (!bounds(v, -99, 99) || !bounds(d, 0, corrections.size() - 1)) return BAD;
        return corrections.set(d, v);
    }

    int copy(int a, int b, int n) {
        int size = corrections.size();
        if (n < 0 || a < 0 || b < 0 || (long) a + n > size || (long) b + n > size) return BAD;
        List<Integer> were = new ArrayList<>(corrections);
        for (int i = 0; i < n; i++) corrections.set(b + i, were.get(a + i));
        return 0;
    }

    int sun(int day, int minute, int what) {
        if (!isTime(day, minute) || !bounds(what, 0, 5)) return BAD;
        if (what <= 2) return (int) sunOf(day, minute)[what];
        if (what == 3) return (int) slopeOf(day);
        return what == 4 ? (int) turnOf(day, minute) : correctionOf(day);
    }

    int dial(int place, int kind, int x, int y, int rod) {
        if (!isPlace(place) || !bounds(kind, 0, 4) || !isSpot(x, y) || !bounds(rod, 1, 1000)) return BAD;
        int[] dial = new int[30];
        Arrays.fill(dial, 1);
        dial[0] = 2 + kind;
        dial[1] = x;
        dial[2] = y;
        dial[3] = rod;
        dial[4] = 0;
        dial[5] = 8192;
        change(place, dial);
        return 0;
    }

    int house(int place, int x, int y, long ends, int height) {
        if (!isPlace(place) || !isSpot(x, y) || !bounds(height, 1, 10000)) return BAD;
        if (!bounds(ends, 0, 1073741823)) return BAD;
        int x2 = (int) (ends >> 15) - 16384, y2 = (int) (ends & 32767) - 16384;
        if (!isSpot(x2, y2) || (x == x2 && y == y2)) return BAD;
        change(place, new int[] {1, x, y, x2, y2, height});
        return 0;
    }

    int drop(int place) {
        if (!isPlace(place)) return BAD;
        if (places[place] == null) return NO;
        change(place, null);
        return 0;
    }

    int move(int place, int x, int y) {
        if (!isPlace(place) || !isSpot(x, y)) return BAD;
        if (!isDial(places[place])) return NO;
        int[] dial = places[place].clone();
        dial[1] = x;
        dial[2] = y;
        change(place, dial);
        return 0;
    }

    private int changeNumber(int place, int kind, int index, int value) {
        if (!isKindOf(places[place], kind)) return NO;
        int[] dial = places[place].clone();
        int was = dial[index];
        dial[index] = value;
        change(place, dial);
        return was;
    }

    int face(int place, int g) {
        return isPlace(place) && bounds(g, 0, 65535) ? changeNumber(place, 1, 4, g) : BAD;
    }

    int tilt(int place, int t) {
        return isPlace(place) && bounds(t, 0, 16384) ? changeNumber(place, 2, 5, t) : BAD;
    }

    int left(int place, int hour, int is) {
        boolean fine = isPlace(place) && bounds(hour, 0, 23) && bounds(is, 0, 1);
        return fine ? changeNumber(place, 4, 6 + hour, is) : BAD;
    }

    int holds(int place) {
        if (!isPlace(place)) return BAD;
        return places[place] == null ? 0 : places[place][0];
    }

    int isOf(int place, int kind) {
        if (!isPlace(place) || !bounds(kind, 0, 4)) return BAD;
        return isKindOf(places[place], kind) ? 1 : 0;
    }

    int about(int place, int what) {
        if (!isPlace(place) || !bounds(what, 0, 5)) return BAD;
        int[] thing = places[place];
        if (thing == null) return NO;
        if (isHouse(thing)) return what == 5 ? NONE : thing[1 + what];
        if (what < 3) return thing[1 + what];
        if (what == 3) return isKindOf(thing, 1) ? thing[4] : NONE;
        if (what == 4) return isKindOf(thing, 2) ? thing[5] : NONE;
        if (!isKindOf(thing, 4)) return NONE;
        int left = 0;
        for (int hour = 0; hour < 24; hour++) left += thing[6 + hour];
        return left;
    }

    int undo() {
        if (gardens.isEmpty()) return NO;
        places = gardens.remove(gardens.size() - 1);
        return changed.remove(changed.size() - 1);
    }

    int state(int place, int day, int minute) {
        if (!isPlace(place) || !isTime(day, minute)) return BAD;
        return isDial(places[place]) ? (int) stateOf(places[place], day, minute)[0] : NO;
    }

    int hides(int place, int day, int minute) {
        int state = state(place, day, minute);
        if (state == BAD || state == NO) return state;
        return state == 3 ? hiderOf(places[place], sunOf(day, minute)) : NONE;
    }

    int end(int place, int day, int minute, int what) {
        if (!bounds(what, 0, 1)) return BAD;
        int state = state(place, day, minute);
        if (state == BAD || state == NO) return state;
        return state == 0 ? (int) stateOf(places[place], day, minute)[1 + what] : NONE;
    }

    int line(int place, int hour, int what) {
        if (!isPlace(place) || !bounds(hour, 0, 23) || !bounds(what, 0, 6)) return BAD;
        if (!isDial(places[place])) return NO;
        List<long[]> ends = new ArrayList<>();
        for (int day = 0; day < 366; day++) {
            long[] state = stateOf(places[place], day, 60 * hour);
            if (state[0] == 0) ends.add(new long[] {day, state[1], state[2]});
        }
        if (what == 0) return ends.size();
        if (ends.isEmpty()) return NONE;
        int column = (what - 1) / 2;
        boolean least = what % 2 == 1;
        long best = ends.get(0)[column];
        for (long[] end : ends) best = least ? Math.min(best, end[column]) : Math.max(best, end[column]);
        return (int) best;
    }

    int read(int place, int day, int minute, int what) {
        if (!isPlace(place) || !isTime(day, minute) || !bounds(what, 0, 2)) return BAD;
        if (!isDial(places[place])) return NO;
        long[] reading = readingOf(places[place], marksOf(places[place], day), day, minute);
        return reading == null ? NONE : (int) reading[what];
    }

    int late(int place, int day, int what) {
        if (!isPlace(place) || !bounds(day, 0, 365) || !bounds(what, 0, 2)) return BAD;
        if (!isDial(places[place])) return NO;
        List<long[]> marks = marksOf(places[place], day);
        long[] shown = new long[1440];
        Arrays.fill(shown, NONE);
        long greatest = NONE;
        int readings = 0;
        for (int m = 0; m < 1440; m++) {
            long[] reading = readingOf(places[place], marks, day, m);
            if (reading == null) continue;
            shown[m] = Math.abs(reading[2] - m);
            greatest = Math.max(greatest, shown[m]);
            readings++;
        }
        if (what == 2) return readings;
        if (what == 0 || readings == 0) return (int) greatest;
        for (int m = 0; m < 1440; m++) if (shown[m] == greatest) return m;
        return NONE;
    }

    int stretches(int place, int day) {
        if (!isPlace(place) || !bounds(day, 0, 365)) return BAD;
        return isDial(places[place]) ? stretchesOf(places[place], day).size() : NO;
    }

    int stretch(int place, int day, int i, int what) {
        if (!isPlace(place) || !bounds(day, 0, 365) || i < 0 || !bounds(what, 0, 1)) return BAD;
        if (!isDial(places[place])) return NO;
        List<int[]> all = stretchesOf(places[place], day);
        return i < all.size() ? all.get(i)[what] : NONE;
    }

    int sight(int day, int minute, int x, int y) {
        if (!isTime(day, minute) || !bounds(x, -1000000, 1000000) || !bounds(y, -1000000, 1000000)) return BAD;
        if (sights.size() == 20) return FULL;
        sights.add(new int[] {day, minute, x, y});
        return sights.size();
    }

    int forget() {
        int were = sights.size();
        sights.clear();
        return were;
    }

    int found(int place) {
        if (!isPlace(place)) return BAD;
        if (!isKindOf(places[place], 1) || sights.size() < 3) return NO;
        turns = new ArrayList<>();
        for (int u = -300; u <= 300; u++) if (agrees(places[place], u)) turns.add(u);
        return turns.size();
    }

    int turn(int i) {
        return bounds(i, 0, turns.size() - 1) ? turns.get(i) : BAD;
    }

    int count(int what) {
        int dials = 0, houses = 0;
        for (int[] thing : places) {
            if (isDial(thing)) dials++;
            if (isHouse(thing)) houses++;
        }
        int[] all = {dials + houses, dials, houses, corrections.size(), sights.size(), gardens.size(), turns.size()};
        return bounds(what, 0, 6) ? all[what] : BAD;
    }
}
