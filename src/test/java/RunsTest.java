import java.util.Random;
import java.util.TreeMap;

/** Long runs of calls, made from told seeds, on DialGarden and on PlainGarden: all answers are the same. */
public final class RunsTest {
    private static final int RUNS = 400, CALLS = 512;
    private static final int[] WILD = {Integer.MIN_VALUE, Integer.MAX_VALUE, -1, 0, 1, 2, 7, 24, 40, 366, 1440, 65536};

    private final Due due;
    private final TreeMap<String, Integer> seen;
    private final int run;
    private final Random random;
    private final DialGarden garden = new DialGarden();
    private final PlainGarden plain = new PlainGarden();
    private int calls = 0;

    private RunsTest(Due due, TreeMap<String, Integer> seen, int run) {
        this.due = due;
        this.seen = seen;
        this.run = run;
        this.random = new Random(run);
    }

    public static void main(String[] args) {
        Due due = new Due();
        TreeMap<String, Integer> seen = new TreeMap<>();
        allSines(due);
        for (int run = 1; run <= RUNS; run++) new RunsTest(due, seen, run).go();
        // Runs in which these never happen would prove little.
        for (String name : new String[] {"state 0", "state 1", "state 2", "state 3", "state 4", "hider", "FULL",
            "turns", "many stretches", "no reading", "reading", "undo", "nothing to undo", "broken hour"}) {
            due.holds("the runs come to: " + name, seen.getOrDefault(name, 0) > 0);
        }
        due.end("RunsTest");
    }

    private static void allSines(Due due) {
        PlainGarden plain = new PlainGarden();
        for (int first = 0; first < 65536; first += CALLS) {
            DialGarden garden = new DialGarden();
            for (int a = first; a < first + CALLS; a++) due.is("sine(" + a + ")", garden.sine(a), plain.sine(a));
        }
    }

    private void go() {
        prepare();
        while (calls < CALLS - 80) {
            int dice = random.nextInt(1000);
            if (dice < 450) changeGarden();
            else if (dice < 560) changeSky();
            else if (dice < 700) askGarden();
            else if (dice < 950) askEnds();
            else if (dice < 985) askSights();
            else findTurn();
        }
        askAll();
    }

    private void same(String call, int got, int want) {
        calls++;
        due.is("run " + run + ", call " + calls + ": " + call, got, want);
    }

    private void note(String name, boolean so) {
        if (so) seen.merge(name, 1, Integer::sum);
    }

    private int between(int least, int greatest) {
        return least + random.nextInt(greatest - least + 1);
    }

    /** Mostly a number in the bounds, now and then one at or just beyond them, or a wild one. */
    private int number(int least, int greatest) {
        int dice = random.nextInt(100);
        if (dice < 88) return between(least, greatest);
        if (dice < 91) return least;
        if (dice < 94) return greatest;
        if (dice < 96) return least - 1;
        if (dice < 98) return greatest + 1;
        return WILD[random.nextInt(WILD.length)];
    }

    private int place() {
        return random.nextInt(20) == 0 ? number(0, 39) : between(0, 5);
    }

    private int coordinate() {
        return random.nextInt(6) == 0 ? number(-10000, 10000) : between(-200, 200);
    }

    private int minute() {
        return random.nextInt(4) == 0 ? number(0, 1439) : between(300, 1140);
    }

    private int angle() {
        return random.nextInt(3) == 0 ? number(0, 65535) : between(24000, 42000);
    }

    private long ends() {
        int dice = random.nextInt(20);
        if (dice == 0) return random.nextLong();
        if (dice == 1) return (long) between(0, 32767) * 32768 + between(0, 32767);
        if (dice == 2) return random.nextBoolean() ? -1 : 1073741824L;
        return 32768L * (16384 + between(-500, 500)) + 16384 + between(-500, 500);
    }

    /** Most runs start with a garden in which something can be seen. */
    private void prepare() {
        if (run % 5 == 0) return;
        if (run % 3 == 0) setLatitude(between(-16384, 16384));
        for (int i = 0; i < 3; i++) newDial(i, between(0, 4));
        newHouse(between(3, 5));
        setFace(between(0, 2), between(24000, 42000));
    }

    private void setLatitude(int f) {
        same("latitude(" + f + ")", garden.latitude(f), plain.latitude(f));
    }

    private void newDial(int place, int kind) {
        int x = coordinate(), y = coordinate(), rod = random.nextInt(3) == 0 ? 1000 : number(1, 1000);
        same("dial(" + place + ", " + kind + ", " + x + ", " + y + ", " + rod + ")",
            garden.dial(place, kind, x, y, rod), plain.dial(place, kind, x, y, rod));
    }

    private void newHouse(int place) {
        int x = coordinate(), y = coordinate(), height = random.nextInt(3) == 0 ? number(1, 10000) : between(1, 400);
        long ends = random.nextInt(30) == 0 ? 32768L * (x + 16384) + y + 16384 : ends();
        same("house(" + place + ", " + x + ", " + y + ", " + ends + ", " + height + ")",
            garden.house(place, x, y, ends, height), plain.house(place, x, y, ends, height));
    }

    private void setFace(int place, int g) {
        same("face(" + place + ", " + g + ")", garden.face(place, g), plain.face(place, g));
    }

    private void changeGarden() {
        int place = place();
        switch (random.nextInt(10)) {
            case 0, 9 -> newDial(place, number(0, 4));
            case 1 -> newHouse(place);
            case 2 -> {
                if (random.nextInt(3) != 0) return;
                same("drop(" + place + ")", garden.drop(place), plain.drop(place));
            }
            case 3 -> {
                int x = coordinate(), y = coordinate();
                same("move(" + place + ", " + x + ", " + y + ")", garden.move(place, x, y), plain.move(place, x, y));
            }
            case 4 -> setFace(place, angle());
            case 5 -> {
                int t = number(0, 16384);
                same("tilt(" + place + ", " + t + ")", garden.tilt(place, t), plain.tilt(place, t));
            }
            case 6, 7 -> {
                int hour = number(0, 23), is = random.nextInt(3) == 0 ? number(0, 1) : 0;
                int want = plain.left(place, hour, is);
                note("broken hour", want == 1);
                same("left(" + place + ", " + hour + ", " + is + ")", garden.left(place, hour, is), want);
            }
            default -> undoSome();
        }
    }

    private void undoSome() {
        int times = random.nextInt(60) == 0 ? 18 : 1;
        for (int i = 0; i < times; i++) {
            int want = plain.undo();
            note("undo", want >= 0);
            note("nothing to undo", want == PlainGarden.NO);
            same("undo()", garden.undo(), want);
        }
    }

    private void changeSky() {
        switch (random.nextInt(6)) {
            case 0 -> setLatitude(random.nextInt(3) == 0 ? number(-16384, 16384) : between(4000, 12000));
            case 1 -> {
                int n = number(0, 366);
                same("corrections(" + n + ")", garden.corrections(n), plain.corrections(n));
            }
            case 2, 3 -> {
                int d = number(0, 365), v = number(-99, 99);
                same("correct(" + d + ", " + v + ")", garden.correct(d, v), plain.correct(d, v));
            }
            case 4 -> {
                int size = plain.count(3), n = number(0, size), rest = size - Math.max(0, Math.min(size, n));
                int a = number(0, rest), b = number(0, rest);
                same("copy(" + a + ", " + b + ", " + n + ")", garden.copy(a, b, n), plain.copy(a, b, n));
            }
            default -> {
                int day = number(0, 365), minute = number(0, 1439), what = number(0, 5);
                same("sun(" + day + ", " + minute + ", " + what + ")", garden.sun(day, minute, what),
                    plain.sun(day, minute, what));
                int a = random.nextInt();
                same("sine(" + a + ")", garden.sine(a), plain.sine(a));
            }
        }
    }

    private void askGarden() {
        int place = place(), kind = number(0, 4), what = number(0, 6);
        switch (random.nextInt(4)) {
            case 0 -> same("holds(" + place + ")", garden.holds(place), plain.holds(place));
            case 1 -> same("isOf(" + place + ", " + kind + ")", garden.isOf(place, kind), plain.isOf(place, kind));
            case 2 -> same("about(" + place + ", " + what + ")", garden.about(place, what), plain.about(place, what));
            default -> same("count(" + what + ")", garden.count(what), plain.count(what));
        }
    }

    private void askEnds() {
        int place = place(), day = number(0, 365);
        switch (random.nextInt(20)) {
            case 0 -> {
                int hour = number(0, 23), what = number(0, 6);
                same("line(" + place + ", " + hour + ", " + what + ")", garden.line(place, hour, what),
                    plain.line(place, hour, what));
            }
            case 1 -> {
                int what = number(0, 2);
                same("late(" + place + ", " + day + ", " + what + ")", garden.late(place, day, what),
                    plain.late(place, day, what));
            }
            case 2 -> {
                int want = plain.stretches(place, day);
                note("many stretches", want > 1);
                same("stretches(" + place + ", " + day + ")", garden.stretches(place, day), want);
            }
            case 3 -> {
                int i = number(0, 2), what = number(0, 1);
                same("stretch(" + place + ", " + day + ", " + i + ", " + what + ")",
                    garden.stretch(place, day, i, what), plain.stretch(place, day, i, what));
            }
            case 4, 5, 6, 7 -> askReading(place, day, minute(), number(0, 2));
            case 8, 9, 10, 11 -> askHides(place, day, minute());
            case 12, 13, 14, 15 -> askEnd(place, day, minute(), number(0, 1));
            case 16, 17 -> askState(place, day, minute());
            default -> {
                int early = firstMinuteWithSun(between(0, 365));
                askState(place, early / 1440, early % 1440);
            }
        }
    }

    /** The sun is lowest then, and ends are far away. */
    private int firstMinuteWithSun(int day) {
        for (int minute = 0; minute < 1440; minute++) {
            if (plain.sun(day, minute, 2) > 0) return 1440 * day + minute;
        }
        return 1440 * day;
    }

    private void askState(int place, int day, int minute) {
        int want = plain.state(place, day, minute);
        note("state " + want, true);
        same("state(" + place + ", " + day + ", " + minute + ")", garden.state(place, day, minute), want);
    }

    private void askHides(int place, int day, int minute) {
        int want = plain.hides(place, day, minute);
        note("hider", want >= 0);
        same("hides(" + place + ", " + day + ", " + minute + ")", garden.hides(place, day, minute), want);
    }

    private int askEnd(int place, int day, int minute, int what) {
        int want = plain.end(place, day, minute, what);
        same("end(" + place + ", " + day + ", " + minute + ", " + what + ")",
            garden.end(place, day, minute, what), want);
        return want;
    }

    private void askReading(int place, int day, int minute, int what) {
        int want = plain.read(place, day, minute, what);
        note("reading", want >= 0);
        note("no reading", want == PlainGarden.NONE && plain.state(place, day, minute) == 0);
        same("read(" + place + ", " + day + ", " + minute + ", " + what + ")",
            garden.read(place, day, minute, what), want);
    }

    private void askSights() {
        switch (random.nextInt(4)) {
            case 0 -> same("forget()", garden.forget(), plain.forget());
            case 1 -> {
                int i = number(0, 3);
                same("turn(" + i + ")", garden.turn(i), plain.turn(i));
            }
            case 2 -> {
                int times = random.nextInt(6) == 0 ? 21 : 2;
                for (int i = 0; i < times; i++) {
                    addSight(number(0, 365), number(0, 1439), number(-1000000, 1000000), number(-1000000, 1000000));
                }
            }
            default -> askFound(place());
        }
    }

    private void addSight(int day, int minute, int x, int y) {
        int want = plain.sight(day, minute, x, y);
        note("FULL", want == PlainGarden.FULL);
        same("sight(" + day + ", " + minute + ", " + x + ", " + y + ")", garden.sight(day, minute, x, y), want);
    }

    private void askFound(int place) {
        int want = plain.found(place);
        note("turns", want > 0);
        same("found(" + place + ")", garden.found(place), want);
        for (int i : new int[] {0, 1, want - 1, want}) same("turn(" + i + ")", garden.turn(i), plain.turn(i));
    }

    /** Sights taken of a dial as it stands, which is turned afterwards. */
    private void findTurn() {
        int place = place(), g = between(25000, 40000);
        if (plain.isOf(place, 1) != 1) return;
        same("forget()", garden.forget(), plain.forget());
        setFace(place, g);
        for (int i = 0; i < 12 && plain.count(4) < 5; i++) {
            int day = between(0, 365), minute = between(500, 940);
            int x = askEnd(place, day, minute, 0), y = askEnd(place, day, minute, 1);
            if (x == PlainGarden.NONE) continue;
            int slack = random.nextInt(6) == 0 ? 2 : 1;
            addSight(day, minute, Math.max(-1000000, Math.min(1000000, x + between(-slack, slack))), y);
        }
        setFace(place, g + between(-320, 320));
        askFound(place);
    }

    private void askAll() {
        for (int what = 0; what <= 6; what++) same("count(" + what + ")", garden.count(what), plain.count(what));
        for (int place = 0; place < 6; place++) {
            same("holds(" + place + ")", garden.holds(place), plain.holds(place));
            for (int what = 0; what <= 5; what++) {
                same("about(" + place + ", " + what + ")", garden.about(place, what), plain.about(place, what));
            }
        }
    }
}
