import java.util.Arrays;

/**
 * A garden of dials in whole units: the sun of a day and minute, the dials and houses that stand in
 * it, and what the shadows of the dials' rods tell. The words used here are those of the document.
 */
public final class DialGarden {
    public static final int BAD = -2000000001, NO = -2000000002, FULL = -2000000003, NONE = -2000000005;

    private static final int ROUND = 65536, HALF_ROUND = 32768, QUARTER = 16384, EIGHTH = 8192;
    private static final int UNIT = 16384, UNIT_BITS = 14;
    private static final int DAYS = 366, MINUTES = 1440, HOURS = 24, MINUTES_PER_HOUR = 60, ALL_HOURS = 0xFFFFFF;
    private static final int PLACES = 40, SPOT_LIMIT = 10000, ROD_LIMIT = 1000, HEIGHT_LIMIT = 10000;
    private static final int CORRECTION_LIMIT = 99, END_LIMIT = 1000000;
    private static final int CHANGES_KEPT = 16, SIGHTS_LIMIT = 20, SIGHTS_NEEDED = 3, TURN_LIMIT = 300;
    private static final int FLAT = 0, UPRIGHT = 1, TILTED = 2, RING = 3, BROKEN = 4;
    private static final int LIT = 0, DARK = 1, BEHIND = 2, HIDDEN = 3, FAR = 4;

    /** For each KIND the KINDS that a DIAL of it is of, bit k for KIND k. */
    private static final int[] KINDS_OF = {0b00001, 0b00011, 0b00111, 0b01001, 0b10111};

    private final Sky sky = new Sky();
    private final Thing[] things = new Thing[PLACES];
    private final Changes changes = new Changes();
    private final Shade shade = new Shade();
    private final Marks marks = new Marks();
    private final Sights sights = new Sights();
    private final int[] turns = new int[2 * TURN_LIMIT + 1];
    private int turnCount = 0;
    private final Range daysOfLine = new Range(), firstNumbers = new Range(), secondNumbers = new Range();
    private final Range minutesOfStretch = new Range();

    public DialGarden() {
    }

    // ---- angles, the sun

    public int sine(int a) {
        return sineOf(a);
    }

    public int latitude(int f) {
        if (!within(f, -QUARTER, QUARTER)) return BAD;
        int was = sky.latitude;
        sky.setLatitude(f);
        return was;
    }

    public int corrections(int n) {
        if (!within(n, 0, DAYS)) return BAD;
        sky.clearCorrections(n);
        return n;
    }

    public int correct(int d, int v) {
        if (!within(v, -CORRECTION_LIMIT, CORRECTION_LIMIT) || !within(d, 0, sky.known - 1)) return BAD;
        int was = sky.corrections[d];
        sky.corrections[d] = v;
        return was;
    }

    public int copy(int a, int b, int n) {
        if (n < 0 || !within(a, 0, sky.known - n) || !within(b, 0, sky.known - n)) return BAD;
        System.arraycopy(sky.corrections, a, sky.corrections, b, n);
        return 0;
    }

    public int sun(int day, int minute, int what) {
        if (!isTime(day, minute) || !within(what, 0, 5)) return BAD;
        sky.setTime(day, minute);
        switch (what) {
            case 0: return sky.east;
            case 1: return sky.north;
            case 2: return sky.up;
            case 3: return sky.slope;
            case 4: return sky.turn;
            default: return sky.correction;
        }
    }

    // ---- the garden

    public int dial(int place, int kind, int x, int y, int rod) {
        if (!isPlace(place) || !isKind(kind) || !isSpot(x, y) || !within(rod, 1, ROD_LIMIT)) return BAD;
        put(place, new Dial(kind, x, y, rod, 0, EIGHTH, ALL_HOURS));
        return 0;
    }

    public int house(int place, int x, int y, long ends, int height) {
        if (!isPlace(place) || !isSpot(x, y) || !within(height, 1, HEIGHT_LIMIT)) return BAD;
        if (!within(ends, 0, 1073741823)) return BAD;
        int x2 = (int) (ends / 32768) - 16384;
        int y2 = (int) (ends % 32768) - 16384;
        if (!isSpot(x2, y2) || (x2 == x && y2 == y)) return BAD;
        put(place, new House(x, y, x2, y2, height));
        return 0;
    }

    public int drop(int place) {
        if (!isPlace(place)) return BAD;
        if (things[place] == null) return NO;
        put(place, null);
        return 0;
    }

    public int move(int place, int x, int y) {
        if (!isPlace(place) || !isSpot(x, y)) return BAD;
        Dial dial = dialAt(place, FLAT);
        if (dial == null) return NO;
        put(place, dial.withSpot(x, y));
        return 0;
    }

    public int face(int place, int g) {
        if (!isPlace(place) || !within(g, 0, ROUND - 1)) return BAD;
        Dial dial = dialAt(place, UPRIGHT);
        if (dial == null) return NO;
        put(place, dial.withFacing(g));
        return dial.facing;
    }

    public int tilt(int place, int t) {
        if (!isPlace(place) || !within(t, 0, QUARTER)) return BAD;
        Dial dial = dialAt(place, TILTED);
        if (dial == null) return NO;
        put(place, dial.withSlant(t));
        return dial.slant;
    }

    public int left(int place, int hour, int is) {
        if (!isPlace(place) || !isHour(hour) || !within(is, 0, 1)) return BAD;
        Dial dial = dialAt(place, BROKEN);
        if (dial == null) return NO;
        put(place, dial.withHour(hour, is));
        return dial.hourLeft(hour);
    }

    public int holds(int place) {
        if (!isPlace(place)) return BAD;
        Thing thing = things[place];
        return thing == null ? 0 : thing.sort();
    }

    public int isOf(int place, int kind) {
        if (!isPlace(place) || !isKind(kind)) return BAD;
        return dialAt(place, kind) == null ? 0 : 1;
    }

    public int about(int place, int what) {
        if (!isPlace(place) || !within(what, 0, 5)) return BAD;
        Thing thing = things[place];
        return thing == null ? NO : thing.property(what);
    }

    public int undo() {
        if (changes.kept == 0) return NO;
        int place = changes.latestPlace();
        things[place] = changes.latestThing();
        changes.takeBack();
        return place;
    }

    // ---- ends

    public int state(int place, int day, int minute) {
        if (!isPlace(place) || !isTime(day, minute)) return BAD;
        Dial dial = dialAt(place, FLAT);
        return dial == null ? NO : stateOf(dial, day, minute);
    }

    public int hides(int place, int day, int minute) {
        if (!isPlace(place) || !isTime(day, minute)) return BAD;
        Dial dial = dialAt(place, FLAT);
        if (dial == null) return NO;
        return stateOf(dial, day, minute) == HIDDEN ? shade.hider : NONE;
    }

    public int end(int place, int day, int minute, int what) {
        if (!isPlace(place) || !isTime(day, minute) || !within(what, 0, 1)) return BAD;
        Dial dial = dialAt(place, FLAT);
        if (dial == null) return NO;
        if (stateOf(dial, day, minute) != LIT) return NONE;
        return what == 0 ? shade.endX : shade.endY;
    }

    public int line(int place, int hour, int what) {
        if (!isPlace(place) || !isHour(hour) || !within(what, 0, 6)) return BAD;
        Dial dial = dialAt(place, FLAT);
        if (dial == null) return NO;
        followLine(dial, hour);
        switch (what) {
            case 0: return daysOfLine.size;
            case 1: return daysOfLine.leastOrNone();
            case 2: return daysOfLine.greatestOrNone();
            case 3: return firstNumbers.leastOrNone();
            case 4: return firstNumbers.greatestOrNone();
            case 5: return secondNumbers.leastOrNone();
            default: return secondNumbers.greatestOrNone();
        }
    }

    public int read(int place, int day, int minute, int what) {
        if (!isPlace(place) || !isTime(day, minute) || !within(what, 0, 2)) return BAD;
        Dial dial = dialAt(place, FLAT);
        if (dial == null) return NO;
        shade.setUp(dial, things);
        setMarks(dial, day);
        if (!hasReading(dial, minute)) return NONE;
        switch (what) {
            case 0: return marks.hourBefore;
            case 1: return marks.hourBehind;
            default: return marks.shown;
        }
    }

    public int late(int place, int day, int what) {
        if (!isPlace(place) || !isDay(day) || !within(what, 0, 2)) return BAD;
        Dial dial = dialAt(place, FLAT);
        if (dial == null) return NO;
        shade.setUp(dial, things);
        setMarks(dial, day);
        int greatest = NONE, minuteOfGreatest = NONE, readings = 0;
        for (int minute = 0; minute < MINUTES; minute++) {
            if (!hasReading(dial, minute)) continue;
            readings++;
            int difference = Math.abs(marks.shown - minute);
            if (difference > greatest) {
                greatest = difference;
                minuteOfGreatest = minute;
            }
        }
        switch (what) {
            case 0: return greatest;
            case 1: return minuteOfGreatest;
            default: return readings;
        }
    }

    public int stretches(int place, int day) {
        if (!isPlace(place) || !isDay(day)) return BAD;
        Dial dial = dialAt(place, FLAT);
        return dial == null ? NO : followStretches(dial, day, NONE);
    }

    public int stretch(int place, int day, int i, int what) {
        if (!isPlace(place) || !isDay(day) || i < 0 || !within(what, 0, 1)) return BAD;
        Dial dial = dialAt(place, FLAT);
        if (dial == null) return NO;
        followStretches(dial, day, i);
        return what == 0 ? minutesOfStretch.leastOrNone() : minutesOfStretch.greatestOrNone();
    }

    // ---- sights

    public int sight(int day, int minute, int x, int y) {
        if (!isTime(day, minute) || !isNear(x) || !isNear(y)) return BAD;
        if (sights.size >= SIGHTS_LIMIT) return FULL;
        sights.add(day, minute, x, y);
        return sights.size;
    }

    public int forget() {
        int were = sights.size;
        sights.size = 0;
        return were;
    }

    public int found(int place) {
        if (!isPlace(place)) return BAD;
        Dial dial = dialAt(place, UPRIGHT);
        if (dial == null || sights.size < SIGHTS_NEEDED) return NO;
        keepAllTurns();
        shade.setUp(dial, things);
        for (int i = 0; i < sights.size; i++) keepAgreeingTurns(dial, i);
        return turnCount;
    }

    public int turn(int i) {
        return within(i, 0, turnCount - 1) ? turns[i] : BAD;
    }

    public int count(int what) {
        switch (what) {
            case 0: return countDials() + countHouses();
            case 1: return countDials();
            case 2: return countHouses();
            case 3: return sky.known;
            case 4: return sights.size;
            case 5: return changes.kept;
            case 6: return turnCount;
            default: return BAD;
        }
    }

    // ---- what numbers may be

    private static boolean within(long number, long least, long greatest) {
        return number >= least && number <= greatest;
    }

    private static boolean isPlace(int place) {
        return within(place, 0, PLACES - 1);
    }

    private static boolean isKind(int kind) {
        return within(kind, FLAT, BROKEN);
    }

    private static boolean isSpot(int x, int y) {
        return within(x, -SPOT_LIMIT, SPOT_LIMIT) && within(y, -SPOT_LIMIT, SPOT_LIMIT);
    }

    private static boolean isHour(int hour) {
        return within(hour, 0, HOURS - 1);
    }

    private static boolean isDay(int day) {
        return within(day, 0, DAYS - 1);
    }

    private static boolean isTime(int day, int minute) {
        return isDay(day) && within(minute, 0, MINUTES - 1);
    }

    private static boolean isNear(long number) {
        return within(number, -END_LIMIT, END_LIMIT);
    }

    // ---- angles

    /** The mask keeps q at 0 .. 2^28, so the divisor is never below 2^30. */
    private static int sineOf(int angle) {
        int a = angle & (HALF_ROUND - 1);
        long q = (long) a * (HALF_ROUND - a);
        int sine = (int) (ROUND * q / (1342177280L - q));
        return (angle & HALF_ROUND) == 0 ? sine : -sine;
    }

    private static int cosineOf(int angle) {
        return sineOf(angle + QUARTER);
    }

    /** The document's x . y: a shift rounds down where Java's division would round towards 0. */
    private static int dot(int x, int y) {
        return (int) (((long) x * y) >> UNIT_BITS);
    }

    // ---- the garden's things

    /** The DIAL of a PLACE, null if there is none that is of the KIND. */
    private Dial dialAt(int place, int kind) {
        if (!isPlace(place)) return null;
        return things[place] instanceof Dial dial && dial.isA(kind) ? dial : null;
    }

    private void put(int place, Thing thing) {
        changes.keep(place, things[place]);
        things[place] = thing;
    }

    private int countDials() {
        int dials = 0;
        for (Thing thing : things) {
            if (thing instanceof Dial) dials++;
        }
        return dials;
    }

    private int countHouses() {
        int houses = 0;
        for (Thing thing : things) {
            if (thing instanceof House) houses++;
        }
        return houses;
    }

    // ---- shadows over a day or a year

    private int stateOf(Dial dial, int day, int minute) {
        shade.setUp(dial, things);
        sky.setTime(day, minute);
        return shade.cast(sky);
    }

    /** LEFT plays no part here: THE LINE asks only whether the DIAL is LIT. */
    private void followLine(Dial dial, int hour) {
        daysOfLine.clear();
        firstNumbers.clear();
        secondNumbers.clear();
        shade.setUp(dial, things);
        for (int day = 0; day < DAYS; day++) {
            sky.setTime(day, MINUTES_PER_HOUR * hour);
            if (shade.cast(sky) != LIT) continue;
            daysOfLine.add(day);
            firstNumbers.add(shade.endX);
            secondNumbers.add(shade.endY);
        }
    }

    /** Leaves the sky on the DAY, so that a reading only has to set the MINUTE. */
    private void setMarks(Dial dial, int day) {
        marks.size = 0;
        sky.setDay(day);
        for (int hour = 0; hour < HOURS; hour++) {
            if (dial.hourLeft(hour) == 0) continue;
            sky.setMinute(MINUTES_PER_HOUR * hour);
            if (shade.cast(sky) == LIT) marks.add(hour, shade.endX, shade.endY);
        }
    }

    private boolean hasReading(Dial dial, int minute) {
        sky.setMinute(minute);
        return shade.cast(sky) == LIT && marks.show(shade.endX, shade.endY, dial.isA(RING));
    }

    /** How many STRETCHES there are; the MINUTES of the wanted one are put into minutesOfStretch. */
    private int followStretches(Dial dial, int day, int wanted) {
        minutesOfStretch.clear();
        shade.setUp(dial, things);
        sky.setDay(day);
        int begun = 0;
        boolean wasLit = false;
        for (int minute = 0; minute < MINUTES; minute++) {
            sky.setMinute(minute);
            boolean isLit = shade.cast(sky) == LIT;
            if (isLit && !wasLit) begun++;
            if (isLit && begun - 1 == wanted) minutesOfStretch.add(minute);
            wasLit = isLit;
        }
        return begun;
    }

    // ---- turns

    private void keepAllTurns() {
        for (int i = 0; i < turns.length; i++) turns[i] = i - TURN_LIMIT;
        turnCount = turns.length;
    }

    /** No turn changes which HOUSE hides the sun, so that is asked once for all of them. */
    private void keepAgreeingTurns(Dial dial, int sight) {
        sky.setTime(sights.days[sight], sights.minutes[sight]);
        shade.findHider(sky);
        int kept = 0;
        for (int i = 0; i < turnCount; i++) {
            shade.setRows(dial, dial.facing + turns[i]);
            if (shade.settle(sky) == LIT && sights.isCloseTo(sight, shade.endX, shade.endY)) turns[kept++] = turns[i];
        }
        turnCount = kept;
    }

    /** What a PLACE holds. It never changes: a change puts another one, so undo() has the old one. */
    private abstract static class Thing {
        abstract int sort();

        abstract int property(int what);
    }

    private static final class House extends Thing {
        private final int x1, y1, x2, y2, height;

        House(int x1, int y1, int x2, int y2, int height) {
            this.x1 = x1;
            this.y1 = y1;
            this.x2 = x2;
            this.y2 = y2;
            this.height = height;
        }

        @Override
        int sort() {
            return 1;
        }

        @Override
        int property(int what) {
            switch (what) {
                case 0: return x1;
                case 1: return y1;
                case 2: return x2;
                case 3: return y2;
                case 4: return height;
                default: return NONE;
            }
        }

        boolean hidesFrom(int x, int y, Sky sky) {
            long px = x1 - x, py = y1 - y, qx = x2 - x, qy = y2 - y;
            long c = sky.east * py - sky.north * px;
            long e = sky.east * qy - sky.north * qx;
            if ((c > 0 && e > 0) || (c < 0 && e < 0)) return false;
            long w = e - c;
            long k = px * qy - py * qx;
            if (w < 0) {
                w = -w;
                k = -k;
            }
            return w != 0 && k > 0 && sky.up * k < height * w;
        }
    }

    private static final class Dial extends Thing {
        private final int kind, x, y, rod, facing, slant, hours;

        Dial(int kind, int x, int y, int rod, int facing, int slant, int hours) {
            this.kind = kind;
            this.x = x;
            this.y = y;
            this.rod = rod;
            this.facing = facing;
            this.slant = slant;
            this.hours = hours;
        }

        Dial withSpot(int newX, int newY) {
            return new Dial(kind, newX, newY, rod, facing, slant, hours);
        }

        Dial withFacing(int angle) {
            return new Dial(kind, x, y, rod, angle, slant, hours);
        }

        Dial withSlant(int angle) {
            return new Dial(kind, x, y, rod, facing, angle, hours);
        }

        Dial withHour(int hour, int is) {
            return new Dial(kind, x, y, rod, facing, slant, (hours & ~(1 << hour)) | (is << hour));
        }

        boolean isA(int otherKind) {
            return isKind(kind) && ((KINDS_OF[kind] >> otherKind) & 1) == 1;
        }

        int hourLeft(int hour) {
            return (hours >> hour) & 1;
        }

        @Override
        int sort() {
            return 2 + kind;
        }

        @Override
        int property(int what) {
            switch (what) {
                case 0: return x;
                case 1: return y;
                case 2: return rod;
                case 3: return isA(UPRIGHT) ? facing : NONE;
                case 4: return isA(TILTED) ? slant : NONE;
                default: return isA(BROKEN) ? Integer.bitCount(hours) : NONE;
            }
        }
    }

    /** THE SUN. What depends on the LATITUDE alone, or on the DAY too, is worked out when it is set. */
    private static final class Sky {
        private final int[] corrections = new int[DAYS];
        private int known = 0;
        private int latitude, latitudeSine, latitudeCosine;
        private int correction, slope, slopeCosine;
        private int northOfDay, northByTurn, upOfDay, upByTurn;
        private int turn, east, north, up;

        Sky() {
            setLatitude(EIGHTH);
        }

        void setLatitude(int angle) {
            latitude = angle;
            latitudeSine = sineOf(angle);
            latitudeCosine = cosineOf(angle);
        }

        void clearCorrections(int n) {
            Arrays.fill(corrections, 0);
            known = n;
        }

        void setTime(int day, int minute) {
            setDay(day);
            setMinute(minute);
        }

        void setDay(int day) {
            correction = within(day, 0, known - 1) ? corrections[day] : 0;
            slope = dot(4267, sineOf(Math.floorDiv(ROUND * (day - 80), DAYS)));
            int slopeSine = sineOf(slope);
            slopeCosine = cosineOf(slope);
            northOfDay = dot(latitudeCosine, slopeSine);
            northByTurn = dot(latitudeSine, slopeCosine);
            upOfDay = dot(latitudeSine, slopeSine);
            upByTurn = dot(latitudeCosine, slopeCosine);
        }

        void setMinute(int minute) {
            turn = Math.floorDiv(2048 * (minute + correction - 720), 45);
            int turnCosine = cosineOf(turn);
            east = -dot(slopeCosine, sineOf(turn));
            north = northOfDay - dot(northByTurn, turnCosine);
            up = upOfDay + dot(upByTurn, turnCosine);
        }

        /** HEIGHT, bit by bit from the greatest: the sine never falls on the way up to a quarter. */
        int height() {
            int angle = 0;
            for (int bit = QUARTER; bit > 0; bit >>= 1) {
                if (angle + bit <= QUARTER && sineOf(angle + bit) <= up) angle += bit;
            }
            return angle;
        }

        int westSide() {
            return east < 0 ? 1 : 0;
        }
    }

    /** One of a DIAL's THREE ROWS. */
    private static final class Row {
        private int toEast = 0, toNorth = 0, toUp = 0;

        void set(int newToEast, int newToNorth, int newToUp) {
            toEast = newToEast;
            toNorth = newToNorth;
            toUp = newToUp;
        }

        long sunBy(Sky sky) {
            return (long) sky.east * toEast + (long) sky.north * toNorth + (long) sky.up * toUp;
        }
    }

    /** The latest changes, in a row that goes round: the oldest gives way to the newest. */
    private static final class Changes {
        private final int[] places = new int[CHANGES_KEPT];
        private final Thing[] things = new Thing[CHANGES_KEPT];
        private int latest = 0, kept = 0;

        void keep(int place, Thing had) {
            latest = Math.floorMod(latest + 1, CHANGES_KEPT);
            places[latest] = place;
            things[latest] = had;
            kept = Math.min(kept + 1, CHANGES_KEPT);
        }

        int latestPlace() {
            return places[latest];
        }

        Thing latestThing() {
            return things[latest];
        }

        void takeBack() {
            things[latest] = null;
            latest = Math.floorMod(latest - 1, CHANGES_KEPT);
            kept--;
        }
    }

    /** A DIAL set up among the HOUSES, and what its shadow does under the sun that the sky shows. */
    private static final class Shade {
        private final Row face = new Row(), across = new Row(), along = new Row();
        private final House[] houses = new House[PLACES];
        private final int[] housePlaces = new int[PLACES];
        private int houseCount = 0;
        private int x = 0, y = 0, rod = 1;
        private boolean isRing = false;
        private int hider = NONE, endX = 0, endY = 0;

        void setUp(Dial dial, Thing[] things) {
            x = dial.x;
            y = dial.y;
            rod = dial.rod;
            isRing = dial.isA(RING);
            setRows(dial, dial.facing);
            gatherHouses(things);
        }

        private void gatherHouses(Thing[] things) {
            houseCount = 0;
            for (int place = 0; place < things.length && place < PLACES; place++) {
                if (things[place] instanceof House house) {
                    houses[houseCount] = house;
                    housePlaces[houseCount] = place;
                    houseCount++;
                }
            }
        }

        void setRows(Dial dial, int facing) {
            int gSine = sineOf(facing), gCosine = cosineOf(facing);
            if (dial.isA(TILTED)) {
                int tSine = sineOf(dial.slant), tCosine = cosineOf(dial.slant);
                face.set(dot(tSine, gSine), dot(tSine, gCosine), tCosine);
                across.set(gCosine, -gSine, 0);
                along.set(-dot(tCosine, gSine), -dot(tCosine, gCosine), tSine);
            } else if (dial.isA(UPRIGHT)) {
                face.set(gSine, gCosine, 0);
                across.set(gCosine, -gSine, 0);
                along.set(0, 0, UNIT);
            } else {
                face.set(0, 0, UNIT);
                across.set(UNIT, 0, 0);
                along.set(0, UNIT, 0);
            }
        }

        /** The STATE; if it is LIT, endX and endY are THE END, if it is HIDDEN, hider is the PLACE. */
        int cast(Sky sky) {
            findHider(sky);
            return settle(sky);
        }

        void findHider(Sky sky) {
            hider = NONE;
            if (sky.up <= 0) return;
            for (int i = 0; i < houseCount && hider == NONE; i++) {
                House house = houses[i];
                if (house != null && house.hidesFrom(x, y, sky)) hider = housePlaces[i];
            }
        }

        /** As cast(), for a hider that is known. */
        int settle(Sky sky) {
            if (sky.up <= 0) return DARK;
            long byFace = face.sunBy(sky);
            if (byFace <= 0) return BEHIND;
            if (hider != NONE) return HIDDEN;
            long first = isRing ? 2 * sky.height() : Math.floorDiv(-rod * across.sunBy(sky), byFace);
            long second = isRing ? sky.westSide() : Math.floorDiv(-rod * along.sunBy(sky), byFace);
            if (!isNear(first) || !isNear(second)) return FAR;
            endX = (int) first;
            endY = (int) second;
            return LIT;
        }
    }

    /** The MARKS of a DAY, and the latest READING by them. */
    private static final class Marks {
        private final int[] hours = new int[HOURS], xs = new int[HOURS], ys = new int[HOURS];
        private int size = 0;
        private int hourBefore = 0, hourBehind = 0, shown = 0;

        void add(int hour, int x, int y) {
            if (size >= HOURS) return;
            hours[size] = hour;
            xs[size] = x;
            ys[size] = y;
            size++;
        }

        /** Whether there is a READING of the END (x, y). */
        boolean show(int x, int y, boolean sameSecondOnly) {
            int before = NONE;
            for (int i = 0; i < size; i++) {
                if (sameSecondOnly && ys[i] != y) continue;
                if (before != NONE && showBetween(before, i, x, y)) return true;
                before = i;
            }
            return false;
        }

        private boolean showBetween(int a, int b, long x, long y) {
            if (!within(a, 0, size - 1) || !within(b, 0, size - 1)) return false;
            long dx = xs[b] - xs[a], dy = ys[b] - ys[a];
            long n = dx * dx + dy * dy;
            long r = (x - xs[a]) * dx + (y - ys[a]) * dy;
            if (r < 0 || r >= n) return false;
            hourBefore = hours[a];
            hourBehind = hours[b];
            int minutesBetween = MINUTES_PER_HOUR * (hourBehind - hourBefore);
            shown = MINUTES_PER_HOUR * hourBefore + (int) (minutesBetween * r / n);
            return true;
        }
    }

    private static final class Sights {
        private final int[] days = new int[SIGHTS_LIMIT], minutes = new int[SIGHTS_LIMIT];
        private final int[] xs = new int[SIGHTS_LIMIT], ys = new int[SIGHTS_LIMIT];
        private int size = 0;

        void add(int day, int minute, int x, int y) {
            if (size >= SIGHTS_LIMIT) return;
            days[size] = day;
            minutes[size] = minute;
            xs[size] = x;
            ys[size] = y;
            size++;
        }

        boolean isCloseTo(int i, int x, int y) {
            return within(i, 0, size - 1) && Math.abs(xs[i] - x) <= 1 && Math.abs(ys[i] - y) <= 1;
        }
    }

    /** How many numbers were added, the least and the greatest of them. */
    private static final class Range {
        private int size = 0, least = 0, greatest = 0;

        void clear() {
            size = 0;
        }

        void add(int number) {
            if (size == 0 || number < least) least = number;
            if (size == 0 || number > greatest) greatest = number;
            size++;
        }

        int leastOrNone() {
            return size == 0 ? NONE : least;
        }

        int greatestOrNone() {
            return size == 0 ? NONE : greatest;
        }
    }
}
