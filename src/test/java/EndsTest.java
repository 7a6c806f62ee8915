/** Promises 19 to 26: states, ends, lines, readings and stretches. */
public final class EndsTest {
    public static void main(String[] args) {
        Due due = new Due();
        darkAndBehind(due);
        refusedStates(due);
        walls(due);
        wallsByOne(due);
        leastPlace(due);
        farEnds(due);
        endsOfKinds(due);
        rings(due);
        lines(due);
        readings(due);
        brokenReadings(due);
        ringReadings(due);
        lateness(due);
        litStretches(due);
        refusedStretches(due);
        due.end("EndsTest");
    }

    /** The other end of a house, as house() is told it. */
    private static long ends(int x, int y) {
        return 32768L * (x + 16384) + y + 16384;
    }

    /** Promise 19: DARK and BEHIND. */
    private static void darkAndBehind(Due due) {
        DialGarden g = new DialGarden();
        due.is("dial(0, 0, 0, 0, 100)", g.dial(0, 0, 0, 0, 100), 0);
        due.is("dial(1, 1, 0, 0, 100)", g.dial(1, 1, 0, 0, 100), 0);
        // UP is 0 at 360 and at 1080 on this day, which is DARK.
        due.is("sun(80, 360, 2)", g.sun(80, 360, 2), 0);
        due.is("sun(80, 361, 2)", g.sun(80, 361, 2), 50);
        due.is("state(0, 80, 0)", g.state(0, 80, 0), 1);
        due.is("state(0, 80, 360)", g.state(0, 80, 360), 1);
        due.is("state(0, 80, 361)", g.state(0, 80, 361), 0);
        due.is("state(0, 80, 720)", g.state(0, 80, 720), 0);
        due.is("state(0, 80, 1079)", g.state(0, 80, 1079), 0);
        due.is("state(0, 80, 1080)", g.state(0, 80, 1080), 1);
        due.is("state(0, 80, 1439)", g.state(0, 80, 1439), 1);
        // A wall that faces north has the sun behind it, but at night it is DARK first.
        due.is("state(1, 80, 720)", g.state(1, 80, 720), 2);
        due.is("state(1, 80, 0)", g.state(1, 80, 0), 1);
        due.is("face(1, 32768)", g.face(1, 32768), 0);
        due.is("state(1, 80, 720)", g.state(1, 80, 720), 0);
        // THE SUN BY the FACE's row is 0, which is BEHIND.
        due.is("face(1, 16384)", g.face(1, 16384), 32768);
        due.is("state(1, 80, 720)", g.state(1, 80, 720), 2);
        due.is("state(1, 80, 719)", g.state(1, 80, 719), 0);
        due.is("state(1, 80, 721)", g.state(1, 80, 721), 2);
        due.is("face(1, 49152)", g.face(1, 49152), 16384);
        due.is("state(1, 80, 720)", g.state(1, 80, 720), 2);
        due.is("state(1, 80, 721)", g.state(1, 80, 721), 0);
        due.is("dial(2, 2, 0, 0, 100)", g.dial(2, 2, 0, 0, 100), 0);
        due.is("state(2, 80, 720)", g.state(2, 80, 720), 2);
        due.is("state(2, 172, 720)", g.state(2, 172, 720), 0);
        due.is("face(2, 32768)", g.face(2, 32768), 0);
        due.is("state(2, 80, 720)", g.state(2, 80, 720), 0);
        due.is("tilt(2, 16384)", g.tilt(2, 16384), 8192);
        due.is("face(2, 0)", g.face(2, 0), 32768);
        due.is("state(2, 80, 720)", g.state(2, 80, 720), 2);
        due.is("tilt(2, 0)", g.tilt(2, 0), 16384);
        due.is("state(2, 80, 720)", g.state(2, 80, 720), 0);
    }

    /** Promises 19, 20, 21: wrong inputs. */
    private static void refusedStates(Due due) {
        DialGarden g = new DialGarden();
        due.is("dial(0, 0, 0, 0, 100)", g.dial(0, 0, 0, 0, 100), 0);
        due.is("house(1, 0, 0, ends(1, 0), 5)", g.house(1, 0, 0, ends(1, 0), 5), 0);
        due.is("state(-1, 0, 0)", g.state(-1, 0, 0), Due.BAD);
        due.is("state(40, 0, 0)", g.state(40, 0, 0), Due.BAD);
        due.is("state(0, -1, 0)", g.state(0, -1, 0), Due.BAD);
        due.is("state(0, 366, 0)", g.state(0, 366, 0), Due.BAD);
        due.is("state(0, 0, -1)", g.state(0, 0, -1), Due.BAD);
        due.is("state(0, 0, 1440)", g.state(0, 0, 1440), Due.BAD);
        due.is("state(1, 0, 0)", g.state(1, 0, 0), Due.NO);
        due.is("state(2, 0, 0)", g.state(2, 0, 0), Due.NO);
        due.is("state(2, 366, 0)", g.state(2, 366, 0), Due.BAD);
        due.is("state(0, 365, 1439)", g.state(0, 365, 1439), 1);
        due.is("hides(-1, 0, 0)", g.hides(-1, 0, 0), Due.BAD);
        due.is("hides(40, 0, 0)", g.hides(40, 0, 0), Due.BAD);
        due.is("hides(0, -1, 0)", g.hides(0, -1, 0), Due.BAD);
        due.is("hides(0, 366, 0)", g.hides(0, 366, 0), Due.BAD);
        due.is("hides(0, 0, -1)", g.hides(0, 0, -1), Due.BAD);
        due.is("hides(0, 0, 1440)", g.hides(0, 0, 1440), Due.BAD);
        due.is("hides(1, 0, 0)", g.hides(1, 0, 0), Due.NO);
        due.is("hides(2, 0, 0)", g.hides(2, 0, 0), Due.NO);
        due.is("hides(2, 0, 1440)", g.hides(2, 0, 1440), Due.BAD);
        due.is("hides(0, 365, 1439)", g.hides(0, 365, 1439), Due.NONE);
        due.is("end(-1, 0, 0, 0)", g.end(-1, 0, 0, 0), Due.BAD);
        due.is("end(40, 0, 0, 0)", g.end(40, 0, 0, 0), Due.BAD);
        due.is("end(0, -1, 0, 0)", g.end(0, -1, 0, 0), Due.BAD);
        due.is("end(0, 366, 0, 0)", g.end(0, 366, 0, 0), Due.BAD);
        due.is("end(0, 0, -1, 0)", g.end(0, 0, -1, 0), Due.BAD);
        due.is("end(0, 0, 1440, 0)", g.end(0, 0, 1440, 0), Due.BAD);
        due.is("end(0, 80, 720, -1)", g.end(0, 80, 720, -1), Due.BAD);
        due.is("end(0, 80, 720, 2)", g.end(0, 80, 720, 2), Due.BAD);
        due.is("end(0, 80, 720, Integer.MIN_VALUE)", g.end(0, 80, 720, Integer.MIN_VALUE), Due.BAD);
        due.is("end(1, 0, 0, 0)", g.end(1, 0, 0, 0), Due.NO);
        due.is("end(2, 0, 0, 0)", g.end(2, 0, 0, 0), Due.NO);
        due.is("end(2, 0, 0, 2)", g.end(2, 0, 0, 2), Due.BAD);
        due.is("end(0, 0, 0, 1)", g.end(0, 0, 0, 1), Due.NONE);
    }

    /** Promises 19 and 20: on this day at noon the sun stands due south, as high as it is far. */
    private static void walls(Due due) {
        DialGarden g = new DialGarden();
        due.is("dial(0, 0, 0, 0, 100)", g.dial(0, 0, 0, 0, 100), 0);
        due.is("house(9, -100, -50, ends(100, -50), 50)", g.house(9, -100, -50, ends(100, -50), 50), 0);
        // UP * k is HEIGHT * w, and not less than it.
        due.is("state(0, 80, 720)", g.state(0, 80, 720), 0);
        due.is("hides(0, 80, 720)", g.hides(0, 80, 720), Due.NONE);
        due.is("house(9, -100, -50, ends(100, -50), 51)", g.house(9, -100, -50, ends(100, -50), 51), 0);
        due.is("state(0, 80, 720)", g.state(0, 80, 720), 3);
        due.is("hides(0, 80, 720)", g.hides(0, 80, 720), 9);
        due.is("end(0, 80, 720, 0)", g.end(0, 80, 720, 0), Due.NONE);
        due.is("end(0, 80, 720, 1)", g.end(0, 80, 720, 1), Due.NONE);
        // The ends the other way round: w is below 0.
        due.is("house(9, 100, -50, ends(-100, -50), 51)", g.house(9, 100, -50, ends(-100, -50), 51), 0);
        due.is("hides(0, 80, 720)", g.hides(0, 80, 720), 9);
        due.is("house(9, 100, -50, ends(-100, -50), 50)", g.house(9, 100, -50, ends(-100, -50), 50), 0);
        due.is("hides(0, 80, 720)", g.hides(0, 80, 720), Due.NONE);
        // One end in line with the sun hides it, one beside it does not.
        due.is("house(9, 0, -50, ends(100, -50), 51)", g.house(9, 0, -50, ends(100, -50), 51), 0);
        due.is("hides(0, 80, 720)", g.hides(0, 80, 720), 9);
        due.is("house(9, 1, -50, ends(100, -50), 51)", g.house(9, 1, -50, ends(100, -50), 51), 0);
        due.is("hides(0, 80, 720)", g.hides(0, 80, 720), Due.NONE);
        due.is("house(9, -100, -50, ends(0, -50), 51)", g.house(9, -100, -50, ends(0, -50), 51), 0);
        due.is("hides(0, 80, 720)", g.hides(0, 80, 720), 9);
        due.is("house(9, -100, -50, ends(-1, -50), 51)", g.house(9, -100, -50, ends(-1, -50), 51), 0);
        due.is("hides(0, 80, 720)", g.hides(0, 80, 720), Due.NONE);
        // A wall in the north, one through the spot, one that runs along the sun's line.
        due.is("house(9, -100, 50, ends(100, 50), 10000)", g.house(9, -100, 50, ends(100, 50), 10000), 0);
        due.is("hides(0, 80, 720)", g.hides(0, 80, 720), Due.NONE);
        due.is("house(9, 100, 50, ends(-100, 50), 10000)", g.house(9, 100, 50, ends(-100, 50), 10000), 0);
        due.is("hides(0, 80, 720)", g.hides(0, 80, 720), Due.NONE);
        due.is("house(9, -100, 0, ends(100, 0), 10000)", g.house(9, -100, 0, ends(100, 0), 10000), 0);
        due.is("hides(0, 80, 720)", g.hides(0, 80, 720), Due.NONE);
        due.is("house(9, 0, -50, ends(0, -100), 10000)", g.house(9, 0, -50, ends(0, -100), 10000), 0);
        due.is("hides(0, 80, 720)", g.hides(0, 80, 720), Due.NONE);
        // From another spot.
        due.is("house(9, -100, -50, ends(100, -50), 51)", g.house(9, -100, -50, ends(100, -50), 51), 0);
        due.is("move(0, 0, 1)", g.move(0, 0, 1), 0);
        due.is("hides(0, 80, 720)", g.hides(0, 80, 720), Due.NONE);
        due.is("move(0, 0, -40)", g.move(0, 0, -40), 0);
        due.is("hides(0, 80, 720)", g.hides(0, 80, 720), 9);
        due.is("move(0, 0, -60)", g.move(0, 0, -60), 0);
        due.is("hides(0, 80, 720)", g.hides(0, 80, 720), Due.NONE);
        due.is("move(0, 100, -40)", g.move(0, 100, -40), 0);
        due.is("hides(0, 80, 720)", g.hides(0, 80, 720), 9);
        due.is("move(0, 101, -40)", g.move(0, 101, -40), 0);
        due.is("hides(0, 80, 720)", g.hides(0, 80, 720), Due.NONE);
        // Numbers as great as can be.
        due.is("move(0, 10000, 10000)", g.move(0, 10000, 10000), 0);
        due.is("house(9, -10000, -10000, ends(10000, -9999), 10000)", g.house(9, -10000, -10000, ends(10000, -9999), 10000), 0);
        due.is("hides(0, 80, 720)", g.hides(0, 80, 720), Due.NONE);
        due.is("hides(0, 80, 1070)", g.hides(0, 80, 1070), Due.NONE);
        due.is("hides(0, 80, 800)", g.hides(0, 80, 800), Due.NONE);
        due.is("hides(0, 355, 725)", g.hides(0, 355, 725), 9);
        due.is("hides(0, 355, 780)", g.hides(0, 355, 780), 9);
    }

    /** Promises 19 and 20: ends that are beside the sun's line by 1 or 2, or on it. */
    private static void wallsByOne(Due due) {
        DialGarden g = new DialGarden();
        due.is("dial(0, 0, 0, 0, 100)", g.dial(0, 0, 0, 0, 100), 0);
        // c, e are 1, 2; then 2, 1; -1, -2; -2, -1.
        due.is("house(9, 5518, -4571, ends(1043, -864), 10000)", g.house(9, 5518, -4571, ends(1043, -864), 10000), 0);
        due.is("hides(0, 253, 569)", g.hides(0, 253, 569), Due.NONE);
        due.is("house(9, 1043, -864, ends(5518, -4571), 10000)", g.house(9, 1043, -864, ends(5518, -4571), 10000), 0);
        due.is("hides(0, 253, 569)", g.hides(0, 253, 569), Due.NONE);
        due.is("house(9, 4475, -3707, ends(-1043, 864), 10000)", g.house(9, 4475, -3707, ends(-1043, 864), 10000), 0);
        due.is("hides(0, 253, 569)", g.hides(0, 253, 569), Due.NONE);
        due.is("house(9, -1043, 864, ends(4475, -3707), 10000)", g.house(9, -1043, 864, ends(4475, -3707), 10000), 0);
        due.is("hides(0, 253, 569)", g.hides(0, 253, 569), Due.NONE);
        // 0, -2; 0, 1; 1, 0; 0, -1; -1, 0; 0, 2; 2, 0; -2, 0.
        due.is("house(9, 9993, -8278, ends(-1043, 864), 10000)", g.house(9, 9993, -8278, ends(-1043, 864), 10000), 0);
        due.is("hides(0, 253, 569)", g.hides(0, 253, 569), 9);
        due.is("house(9, 9993, -8278, ends(-4475, 3707), 10000)", g.house(9, 9993, -8278, ends(-4475, 3707), 10000), 0);
        due.is("hides(0, 253, 569)", g.hides(0, 253, 569), 9);
        due.is("house(9, -4475, 3707, ends(9993, -8278), 10000)", g.house(9, -4475, 3707, ends(9993, -8278), 10000), 0);
        due.is("hides(0, 253, 569)", g.hides(0, 253, 569), 9);
        due.is("house(9, 9993, -8278, ends(-5518, 4571), 10000)", g.house(9, 9993, -8278, ends(-5518, 4571), 10000), 0);
        due.is("hides(0, 253, 569)", g.hides(0, 253, 569), 9);
        due.is("house(9, -5518, 4571, ends(9993, -8278), 10000)", g.house(9, -5518, 4571, ends(9993, -8278), 10000), 0);
        due.is("hides(0, 253, 569)", g.hides(0, 253, 569), 9);
        due.is("house(9, 9993, -8278, ends(-8950, 7414), 10000)", g.house(9, 9993, -8278, ends(-8950, 7414), 10000), 0);
        due.is("hides(0, 253, 569)", g.hides(0, 253, 569), 9);
        due.is("house(9, -8950, 7414, ends(9993, -8278), 10000)", g.house(9, -8950, 7414, ends(9993, -8278), 10000), 0);
        due.is("hides(0, 253, 569)", g.hides(0, 253, 569), 9);
        due.is("house(9, -1043, 864, ends(9993, -8278), 10000)", g.house(9, -1043, 864, ends(9993, -8278), 10000), 0);
        due.is("hides(0, 253, 569)", g.hides(0, 253, 569), 9);
        // k is 1.
        due.is("house(9, -1, -1, ends(1, 0), 1)", g.house(9, -1, -1, ends(1, 0), 1), 0);
        due.is("hides(0, 80, 720)", g.hides(0, 80, 720), 9);
    }

    /** Promise 20: of several houses that of the least place hides the sun. */
    private static void leastPlace(Due due) {
        DialGarden g = new DialGarden();
        due.is("dial(0, 1, 0, 0, 100)", g.dial(0, 1, 0, 0, 100), 0);
        due.is("face(0, 32768)", g.face(0, 32768), 0);
        due.is("house(7, -100, -50, ends(100, -50), 100)", g.house(7, -100, -50, ends(100, -50), 100), 0);
        due.is("hides(0, 80, 720)", g.hides(0, 80, 720), 7);
        due.is("house(12, -100, -20, ends(100, -20), 100)", g.house(12, -100, -20, ends(100, -20), 100), 0);
        due.is("hides(0, 80, 720)", g.hides(0, 80, 720), 7);
        due.is("house(3, -100, 50, ends(100, 50), 100)", g.house(3, -100, 50, ends(100, 50), 100), 0);
        due.is("hides(0, 80, 720)", g.hides(0, 80, 720), 7);
        due.is("house(5, -100, -90, ends(100, -90), 100)", g.house(5, -100, -90, ends(100, -90), 100), 0);
        due.is("hides(0, 80, 720)", g.hides(0, 80, 720), 5);
        due.is("drop(5)", g.drop(5), 0);
        due.is("drop(7)", g.drop(7), 0);
        due.is("hides(0, 80, 720)", g.hides(0, 80, 720), 12);
        due.is("undo()", g.undo(), 7);
        due.is("hides(0, 80, 720)", g.hides(0, 80, 720), 7);
        // BEHIND and DARK stand ahead of HIDDEN.
        due.is("face(0, 0)", g.face(0, 0), 32768);
        due.is("state(0, 80, 720)", g.state(0, 80, 720), 2);
        due.is("hides(0, 80, 720)", g.hides(0, 80, 720), Due.NONE);
        due.is("state(0, 80, 0)", g.state(0, 80, 0), 1);
        due.is("hides(0, 80, 0)", g.hides(0, 80, 0), Due.NONE);
        due.is("house(39, 3, 0, ends(0, -4), 1)", g.house(39, 3, 0, ends(0, -4), 1), 0);
        due.is("drop(7)", g.drop(7), 0);
        due.is("drop(12)", g.drop(12), 0);
        due.is("drop(3)", g.drop(3), 0);
        due.is("face(0, 32768)", g.face(0, 32768), 0);
        due.is("hides(0, 355, 730)", g.hides(0, 355, 730), Due.NONE);
        due.is("house(39, 3, -1, ends(-3, -1), 1)", g.house(39, 3, -1, ends(-3, -1), 1), 0);
        due.is("hides(0, 355, 730)", g.hides(0, 355, 730), 39);
    }

    /** Promise 19: FAR: an end's number beyond 1000000 either way. */
    private static void farEnds(Due due) {
        DialGarden g = new DialGarden();
        due.is("latitude(-16186)", g.latitude(-16186), 8192);
        due.is("dial(0, 0, 0, 0, 942)", g.dial(0, 0, 0, 0, 942), 0);
        due.is("end(0, 262, 981, 0)", g.end(0, 262, 981, 0), 1000000);
        due.is("end(0, 262, 981, 1)", g.end(0, 262, 981, 1), -462321);
        due.is("state(0, 262, 981)", g.state(0, 262, 981), 0);
        due.is("latitude(-7188)", g.latitude(-7188), -16186);
        due.is("dial(0, 0, 0, 0, 922)", g.dial(0, 0, 0, 0, 922), 0);
        due.is("state(0, 276, 1097)", g.state(0, 276, 1097), 4);
        due.is("end(0, 276, 1097, 0)", g.end(0, 276, 1097, 0), Due.NONE);
        due.is("end(0, 276, 1097, 1)", g.end(0, 276, 1097, 1), Due.NONE);
        due.is("hides(0, 276, 1097)", g.hides(0, 276, 1097), Due.NONE);
        due.is("dial(0, 0, 0, 0, 921)", g.dial(0, 0, 0, 0, 921), 0);
        due.is("state(0, 276, 1097)", g.state(0, 276, 1097), 0);
        due.is("latitude(-13458)", g.latitude(-13458), -7188);
        due.is("dial(0, 0, 0, 0, 1000)", g.dial(0, 0, 0, 0, 1000), 0);
        due.is("end(0, 64, 269, 0)", g.end(0, 64, 269, 0), -1000000);
        due.is("latitude(-13722)", g.latitude(-13722), -13458);
        due.is("dial(0, 0, 0, 0, 971)", g.dial(0, 0, 0, 0, 971), 0);
        due.is("state(0, 68, 285)", g.state(0, 68, 285), 4);
        due.is("latitude(-11962)", g.latitude(-11962), -13722);
        due.is("dial(0, 0, 0, 0, 960)", g.dial(0, 0, 0, 0, 960), 0);
        due.is("end(0, 132, 549, 1)", g.end(0, 132, 549, 1), -1000000);
        due.is("latitude(-13051)", g.latitude(-13051), -11962);
        due.is("dial(0, 0, 0, 0, 971)", g.dial(0, 0, 0, 0, 971), 0);
        due.is("state(0, 128, 639)", g.state(0, 128, 639), 4);
        due.is("latitude(-14448)", g.latitude(-14448), -13051);
        due.is("dial(0, 0, 0, 0, 1000)", g.dial(0, 0, 0, 0, 1000), 0);
        due.is("end(0, 288, 96, 1)", g.end(0, 288, 96, 1), 1000000);
        due.is("latitude(-14668)", g.latitude(-14668), -14448);
        due.is("dial(0, 0, 0, 0, 975)", g.dial(0, 0, 0, 0, 975), 0);
        due.is("state(0, 284, 1324)", g.state(0, 284, 1324), 4);
        // HIDDEN stands ahead of FAR; a ring is never FAR.
        due.is("sun(284, 1324, 0)", g.sun(284, 1324, 0), -7860);
        due.is("sun(284, 1324, 1)", g.sun(284, 1324, 1), -14359);
        due.is("house(1, -9000, 9000, ends(9000, 9000), 9000)", g.house(1, -9000, 9000, ends(9000, 9000), 9000), 0);
        due.is("house(2, -9000, -9000, ends(9000, -9000), 9000)", g.house(2, -9000, -9000, ends(9000, -9000), 9000), 0);
        due.is("house(3, -9000, 9000, ends(-9000, -9000), 9000)", g.house(3, -9000, 9000, ends(-9000, -9000), 9000), 0);
        due.is("house(4, 9000, 9000, ends(9000, -9000), 9000)", g.house(4, 9000, 9000, ends(9000, -9000), 9000), 0);
        due.is("state(0, 284, 1324)", g.state(0, 284, 1324), 3);
        due.is("hides(0, 284, 1324)", g.hides(0, 284, 1324), 2);
        due.is("drop(1)", g.drop(1), 0);
        due.is("drop(2)", g.drop(2), 0);
        due.is("drop(3)", g.drop(3), 0);
        due.is("drop(4)", g.drop(4), 0);
        due.is("state(0, 284, 1324)", g.state(0, 284, 1324), 4);
        due.is("dial(0, 3, 0, 0, 975)", g.dial(0, 3, 0, 0, 975), 0);
        due.is("state(0, 284, 1324)", g.state(0, 284, 1324), 0);
    }

    /** Promise 21. */
    private static void endsOfKinds(Due due) {
        DialGarden g = new DialGarden();
        due.is("dial(0, 0, 0, 0, 100)", g.dial(0, 0, 0, 0, 100), 0);
        due.is("end(0, 80, 720, 0)", g.end(0, 80, 720, 0), 0);
        due.is("end(0, 80, 720, 1)", g.end(0, 80, 720, 1), 100);
        due.is("end(0, 80, 600, 0)", g.end(0, 80, 600, 0), -82);
        due.is("end(0, 80, 600, 1)", g.end(0, 80, 600, 1), 100);
        due.is("end(0, 80, 840, 0)", g.end(0, 80, 840, 0), 81);
        due.is("end(0, 80, 840, 1)", g.end(0, 80, 840, 1), 100);
        due.is("end(0, 300, 1000, 0)", g.end(0, 300, 1000, 0), 1414);
        due.is("end(0, 300, 1000, 1)", g.end(0, 300, 1000, 1), 629);
        // The spot has no part in it.
        due.is("move(0, 5000, -77)", g.move(0, 5000, -77), 0);
        due.is("end(0, 300, 1000, 0)", g.end(0, 300, 1000, 0), 1414);
        due.is("dial(1, 1, 0, 0, 250)", g.dial(1, 1, 0, 0, 250), 0);
        due.is("face(1, 30000)", g.face(1, 30000), 0);
        due.is("end(1, 80, 720, 0)", g.end(1, 80, 720, 0), -69);
        due.is("end(1, 80, 720, 1)", g.end(1, 80, 720, 1), -260);
        due.is("end(1, 20, 801, 0)", g.end(1, 20, 801, 0), -182);
        due.is("end(1, 20, 801, 1)", g.end(1, 20, 801, 1), -127);
        due.is("face(1, 32768)", g.face(1, 32768), 30000);
        due.is("end(1, 80, 720, 0)", g.end(1, 80, 720, 0), 0);
        due.is("end(1, 80, 720, 1)", g.end(1, 80, 720, 1), -250);
        due.is("dial(2, 2, 0, 0, 999)", g.dial(2, 2, 0, 0, 999), 0);
        due.is("face(2, 35000)", g.face(2, 35000), 0);
        due.is("end(2, 80, 720, 0)", g.end(2, 80, 720, 0), 153);
        due.is("end(2, 80, 720, 1)", g.end(2, 80, 720, 1), -12);
        due.is("tilt(2, 12000)", g.tilt(2, 12000), 8192);
        due.is("end(2, 80, 720, 0)", g.end(2, 80, 720, 0), 164);
        due.is("end(2, 80, 720, 1)", g.end(2, 80, 720, 1), -395);
        due.is("end(2, 200, 480, 0)", g.end(2, 200, 480, 0), 5357);
        due.is("end(2, 200, 480, 1)", g.end(2, 200, 480, 1), -3767);
        due.is("dial(3, 4, 0, 0, 999)", g.dial(3, 4, 0, 0, 999), 0);
        due.is("face(3, 35000)", g.face(3, 35000), 0);
        due.is("tilt(3, 12000)", g.tilt(3, 12000), 8192);
        due.is("left(3, 8, 0)", g.left(3, 8, 0), 1);
        due.is("end(3, 200, 480, 0)", g.end(3, 200, 480, 0), 5357);
        due.is("end(3, 200, 480, 1)", g.end(3, 200, 480, 1), -3767);
        // Facing the sun itself the end is at the rod's foot.
        due.is("face(2, 32768)", g.face(2, 32768), 35000);
        due.is("tilt(2, 8192)", g.tilt(2, 8192), 12000);
        due.is("end(2, 80, 720, 0)", g.end(2, 80, 720, 0), 0);
        due.is("end(2, 80, 720, 1)", g.end(2, 80, 720, 1), 0);
        due.is("tilt(2, 0)", g.tilt(2, 0), 8192);
        due.is("end(2, 80, 720, 0)", g.end(2, 80, 720, 0), 0);
        due.is("end(2, 80, 720, 1)", g.end(2, 80, 720, 1), 999);
    }

    /** Promise 21: a ring tells the height and the side of the sun. */
    private static void rings(Due due) {
        DialGarden g = new DialGarden();
        due.is("dial(0, 3, 0, 0, 10)", g.dial(0, 3, 0, 0, 10), 0);
        due.is("end(0, 80, 720, 0)", g.end(0, 80, 720, 0), 16384);
        due.is("end(0, 80, 720, 1)", g.end(0, 80, 720, 1), 0);
        due.is("end(0, 80, 719, 1)", g.end(0, 80, 719, 1), 0);
        due.is("end(0, 80, 721, 1)", g.end(0, 80, 721, 1), 1);
        due.is("end(0, 80, 361, 0)", g.end(0, 80, 361, 0), 62);
        due.is("end(0, 80, 1079, 1)", g.end(0, 80, 1079, 1), 1);
        due.is("end(0, 172, 600, 0)", g.end(0, 172, 600, 0), 20878);
        due.is("end(0, 172, 840, 0)", g.end(0, 172, 840, 0), 20880);
        due.is("end(0, 172, 720, 0)", g.end(0, 172, 720, 0), 24858);
        due.is("end(0, 355, 720, 0)", g.end(0, 355, 720, 0), 7788);
        // The rod has no part in it.
        due.is("dial(0, 3, 0, 0, 1000)", g.dial(0, 3, 0, 0, 1000), 0);
        due.is("end(0, 172, 600, 0)", g.end(0, 172, 600, 0), 20878);
        // The sun overhead.
        due.is("latitude(0)", g.latitude(0), 8192);
        due.is("end(0, 80, 720, 0)", g.end(0, 80, 720, 0), 32768);
        due.is("end(0, 80, 700, 0)", g.end(0, 80, 700, 0), 30948);
        due.is("end(0, 80, 718, 0)", g.end(0, 80, 718, 0), 32766);
        due.is("end(0, 80, 719, 0)", g.end(0, 80, 719, 0), 32766);
        due.is("state(0, 80, 300)", g.state(0, 80, 300), 1);
        due.is("end(0, 80, 300, 1)", g.end(0, 80, 300, 1), Due.NONE);
    }

    /** Promise 22. */
    private static void lines(Due due) {
        DialGarden g = new DialGarden();
        due.is("dial(0, 0, 0, 0, 100)", g.dial(0, 0, 0, 0, 100), 0);
        due.is("line(0, 12, 0)", g.line(0, 12, 0), 366);
        due.is("line(0, 12, 1)", g.line(0, 12, 1), 0);
        due.is("line(0, 12, 2)", g.line(0, 12, 2), 365);
        due.is("line(0, 12, 3)", g.line(0, 12, 3), 0);
        due.is("line(0, 12, 4)", g.line(0, 12, 4), 0);
        due.is("line(0, 12, 5)", g.line(0, 12, 5), 39);
        due.is("line(0, 12, 6)", g.line(0, 12, 6), 253);
        due.is("line(0, 6, 0)", g.line(0, 6, 0), 182);
        due.is("line(0, 6, 1)", g.line(0, 6, 1), 81);
        due.is("line(0, 6, 2)", g.line(0, 6, 2), 262);
        due.is("line(0, 6, 3)", g.line(0, 6, 3), -19739);
        due.is("line(0, 6, 4)", g.line(0, 6, 4), -326);
        due.is("line(0, 6, 5)", g.line(0, 6, 5), -100);
        due.is("line(0, 6, 6)", g.line(0, 6, 6), -100);
        due.is("line(0, 18, 3)", g.line(0, 18, 3), 325);
        due.is("line(0, 18, 4)", g.line(0, 18, 4), 19738);
        due.is("line(0, 0, 0)", g.line(0, 0, 0), 0);
        due.is("line(0, 0, 1)", g.line(0, 0, 1), Due.NONE);
        due.is("line(0, 0, 2)", g.line(0, 0, 2), Due.NONE);
        due.is("line(0, 0, 3)", g.line(0, 0, 3), Due.NONE);
        due.is("line(0, 0, 4)", g.line(0, 0, 4), Due.NONE);
        due.is("line(0, 0, 5)", g.line(0, 0, 5), Due.NONE);
        due.is("line(0, 0, 6)", g.line(0, 0, 6), Due.NONE);
        due.is("line(0, 23, 0)", g.line(0, 23, 0), 0);
        due.is("line(0, 9, 3)", g.line(0, 9, 3), -369);
        due.is("line(0, 9, 4)", g.line(0, 9, 4), -88);
        due.is("line(0, 9, 5)", g.line(0, 9, 5), 23);
        due.is("line(0, 9, 6)", g.line(0, 9, 6), 420);
        due.is("line(0, -1, 0)", g.line(0, -1, 0), Due.BAD);
        due.is("line(0, 24, 0)", g.line(0, 24, 0), Due.BAD);
        due.is("line(0, 12, -1)", g.line(0, 12, -1), Due.BAD);
        due.is("line(0, 12, 7)", g.line(0, 12, 7), Due.BAD);
        due.is("line(-1, 12, 0)", g.line(-1, 12, 0), Due.BAD);
        due.is("line(40, 12, 0)", g.line(40, 12, 0), Due.BAD);
        due.is("line(1, 12, 0)", g.line(1, 12, 0), Due.NO);
        due.is("line(1, 24, 0)", g.line(1, 24, 0), Due.BAD);
        due.is("house(1, -100, -50, ends(100, -50), 20)", g.house(1, -100, -50, ends(100, -50), 20), 0);
        due.is("line(1, 12, 0)", g.line(1, 12, 0), Due.NO);
        // A house takes days out of the line, here those of winter.
        due.is("line(0, 12, 0)", g.line(0, 12, 0), 348);
        due.is("line(0, 12, 1)", g.line(0, 12, 1), 0);
        due.is("line(0, 12, 2)", g.line(0, 12, 2), 365);
        due.is("line(0, 12, 5)", g.line(0, 12, 5), 39);
        due.is("line(0, 12, 6)", g.line(0, 12, 6), 249);
        // An hour that is not left still has its line.
        due.is("dial(2, 4, 0, 500, 100)", g.dial(2, 4, 0, 500, 100), 0);
        due.is("face(2, 32768)", g.face(2, 32768), 0);
        due.is("line(2, 10, 0)", g.line(2, 10, 0), 366);
        due.is("line(2, 10, 4)", g.line(2, 10, 4), 58);
        due.is("left(2, 10, 0)", g.left(2, 10, 0), 1);
        due.is("line(2, 10, 0)", g.line(2, 10, 0), 366);
        due.is("line(2, 10, 4)", g.line(2, 10, 4), 58);
    }

    /** Promise 23. */
    private static void readings(Due due) {
        DialGarden g = new DialGarden();
        due.is("dial(0, 0, 0, 0, 100)", g.dial(0, 0, 0, 0, 100), 0);
        // At a mark it is that mark's hour and the next one's.
        due.is("read(0, 80, 720, 0)", g.read(0, 80, 720, 0), 12);
        due.is("read(0, 80, 720, 1)", g.read(0, 80, 720, 1), 13);
        due.is("read(0, 80, 720, 2)", g.read(0, 80, 720, 2), 720);
        due.is("read(0, 80, 719, 0)", g.read(0, 80, 719, 0), 11);
        due.is("read(0, 80, 719, 1)", g.read(0, 80, 719, 1), 12);
        due.is("read(0, 80, 719, 2)", g.read(0, 80, 719, 2), 718);
        due.is("read(0, 80, 613, 2)", g.read(0, 80, 613, 2), 613);
        // Ahead of the first mark and behind the last one there is none, though it is lit.
        due.is("state(0, 80, 400)", g.state(0, 80, 400), 0);
        due.is("read(0, 80, 400, 0)", g.read(0, 80, 400, 0), Due.NONE);
        due.is("read(0, 80, 400, 1)", g.read(0, 80, 400, 1), Due.NONE);
        due.is("read(0, 80, 400, 2)", g.read(0, 80, 400, 2), Due.NONE);
        due.is("read(0, 80, 420, 0)", g.read(0, 80, 420, 0), 7);
        due.is("read(0, 80, 420, 2)", g.read(0, 80, 420, 2), 420);
        due.is("state(0, 80, 1020)", g.state(0, 80, 1020), 0);
        due.is("read(0, 80, 1020, 0)", g.read(0, 80, 1020, 0), Due.NONE);
        due.is("read(0, 80, 1019, 0)", g.read(0, 80, 1019, 0), 16);
        due.is("read(0, 80, 0, 0)", g.read(0, 80, 0, 0), Due.NONE);
        due.is("read(0, -1, 720, 0)", g.read(0, -1, 720, 0), Due.BAD);
        due.is("read(0, 366, 720, 0)", g.read(0, 366, 720, 0), Due.BAD);
        due.is("read(0, 80, -1, 0)", g.read(0, 80, -1, 0), Due.BAD);
        due.is("read(0, 80, 1440, 0)", g.read(0, 80, 1440, 0), Due.BAD);
        due.is("read(0, 80, 720, -1)", g.read(0, 80, 720, -1), Due.BAD);
        due.is("read(0, 80, 720, 3)", g.read(0, 80, 720, 3), Due.BAD);
        due.is("read(-1, 80, 720, 0)", g.read(-1, 80, 720, 0), Due.BAD);
        due.is("read(40, 80, 720, 0)", g.read(40, 80, 720, 0), Due.BAD);
        due.is("read(1, 80, 720, 0)", g.read(1, 80, 720, 0), Due.NO);
        due.is("read(1, 80, 720, 3)", g.read(1, 80, 720, 3), Due.BAD);
        due.is("house(1, 300, -200, ends(300, 200), 900)", g.house(1, 300, -200, ends(300, 200), 900), 0);
        due.is("read(1, 80, 720, 0)", g.read(1, 80, 720, 0), Due.NO);
        // A house hides marks and minutes.
        due.is("read(0, 80, 450, 0)", g.read(0, 80, 450, 0), Due.NONE);
        due.is("state(0, 80, 450)", g.state(0, 80, 450), 3);
        due.is("read(0, 80, 500, 0)", g.read(0, 80, 500, 0), Due.NONE);
        due.is("read(0, 80, 720, 0)", g.read(0, 80, 720, 0), 12);
    }

    /** Promise 23: hours that are not left are no marks. */
    private static void brokenReadings(Due due) {
        DialGarden g = new DialGarden();
        due.is("dial(1, 4, 0, 0, 300)", g.dial(1, 4, 0, 0, 300), 0);
        due.is("face(1, 30000)", g.face(1, 30000), 0);
        due.is("tilt(1, 9000)", g.tilt(1, 9000), 8192);
        due.is("read(1, 100, 630, 0)", g.read(1, 100, 630, 0), 10);
        due.is("read(1, 100, 630, 1)", g.read(1, 100, 630, 1), 11);
        due.is("read(1, 100, 630, 2)", g.read(1, 100, 630, 2), 630);
        due.is("left(1, 10, 0)", g.left(1, 10, 0), 1);
        due.is("read(1, 100, 630, 0)", g.read(1, 100, 630, 0), 9);
        due.is("read(1, 100, 630, 1)", g.read(1, 100, 630, 1), 11);
        due.is("left(1, 11, 0)", g.left(1, 11, 0), 1);
        due.is("read(1, 100, 630, 0)", g.read(1, 100, 630, 0), 9);
        due.is("read(1, 100, 630, 1)", g.read(1, 100, 630, 1), 12);
        due.is("read(1, 100, 630, 2)", g.read(1, 100, 630, 2), 637);
        due.is("read(1, 100, 600, 0)", g.read(1, 100, 600, 0), 9);
        due.is("left(1, 11, 1)", g.left(1, 11, 1), 0);
        due.is("left(1, 10, 1)", g.left(1, 10, 1), 0);
        due.is("read(1, 100, 630, 0)", g.read(1, 100, 630, 0), 10);
        due.is("read(1, 100, 630, 1)", g.read(1, 100, 630, 1), 11);
        // With less than two marks there is nothing to read.
        due.is("left(1, 5, 0)", g.left(1, 5, 0), 1);
        due.is("left(1, 6, 0)", g.left(1, 6, 0), 1);
        due.is("left(1, 7, 0)", g.left(1, 7, 0), 1);
        due.is("left(1, 8, 0)", g.left(1, 8, 0), 1);
        due.is("left(1, 9, 0)", g.left(1, 9, 0), 1);
        due.is("left(1, 10, 0)", g.left(1, 10, 0), 1);
        due.is("left(1, 11, 0)", g.left(1, 11, 0), 1);
        due.is("left(1, 13, 0)", g.left(1, 13, 0), 1);
        due.is("left(1, 14, 0)", g.left(1, 14, 0), 1);
        due.is("left(1, 15, 0)", g.left(1, 15, 0), 1);
        due.is("left(1, 16, 0)", g.left(1, 16, 0), 1);
        due.is("left(1, 17, 0)", g.left(1, 17, 0), 1);
        due.is("left(1, 18, 0)", g.left(1, 18, 0), 1);
        due.is("read(1, 100, 720, 0)", g.read(1, 100, 720, 0), Due.NONE);
        due.is("late(1, 100, 0)", g.late(1, 100, 0), Due.NONE);
        due.is("late(1, 100, 1)", g.late(1, 100, 1), Due.NONE);
        due.is("late(1, 100, 2)", g.late(1, 100, 2), 0);
        due.is("left(1, 16, 1)", g.left(1, 16, 1), 0);
        due.is("read(1, 100, 720, 0)", g.read(1, 100, 720, 0), 12);
        due.is("read(1, 100, 720, 1)", g.read(1, 100, 720, 1), 16);
        due.is("read(1, 100, 800, 2)", g.read(1, 100, 800, 2), 754);
        due.is("late(1, 100, 2)", g.late(1, 100, 2), 240);
    }

    /** Promise 23: of a ring only marks on the sun's side count. */
    private static void ringReadings(Due due) {
        DialGarden g = new DialGarden();
        due.is("dial(0, 3, 0, 0, 10)", g.dial(0, 3, 0, 0, 10), 0);
        due.is("read(0, 172, 615, 0)", g.read(0, 172, 615, 0), 10);
        due.is("read(0, 172, 615, 1)", g.read(0, 172, 615, 1), 11);
        due.is("read(0, 172, 615, 2)", g.read(0, 172, 615, 2), 617);
        due.is("read(0, 172, 845, 0)", g.read(0, 172, 845, 0), 14);
        due.is("read(0, 172, 845, 1)", g.read(0, 172, 845, 1), 15);
        due.is("read(0, 172, 845, 2)", g.read(0, 172, 845, 2), 844);
        due.is("read(0, 172, 719, 0)", g.read(0, 172, 719, 0), 11);
        due.is("read(0, 172, 719, 1)", g.read(0, 172, 719, 1), 12);
        // Noon's own end is one of the morning's side and its last mark; the afternoon's first mark is that of 13.
        due.is("read(0, 172, 720, 0)", g.read(0, 172, 720, 0), Due.NONE);
        due.is("read(0, 172, 721, 0)", g.read(0, 172, 721, 0), Due.NONE);
        due.is("read(0, 172, 780, 0)", g.read(0, 172, 780, 0), 13);
        due.is("read(0, 172, 781, 0)", g.read(0, 172, 781, 0), 13);
        // On the pole all ends of a day are one, so nothing lies between them.
        due.is("latitude(16384)", g.latitude(16384), 8192);
        due.is("state(0, 172, 615)", g.state(0, 172, 615), 0);
        due.is("read(0, 172, 615, 0)", g.read(0, 172, 615, 0), Due.NONE);
        due.is("late(0, 172, 2)", g.late(0, 172, 2), 0);
        due.is("late(0, 172, 0)", g.late(0, 172, 0), Due.NONE);
        due.is("late(0, 172, 1)", g.late(0, 172, 1), Due.NONE);
    }

    /** Promise 24. */
    private static void lateness(Due due) {
        DialGarden g = new DialGarden();
        due.is("dial(0, 0, 0, 0, 100)", g.dial(0, 0, 0, 0, 100), 0);
        due.is("late(0, 80, 0)", g.late(0, 80, 0), 10);
        due.is("late(0, 80, 1)", g.late(0, 80, 1), 986);
        due.is("late(0, 80, 2)", g.late(0, 80, 2), 600);
        due.is("late(0, 0, 0)", g.late(0, 0, 0), 21);
        due.is("late(0, 0, 1)", g.late(0, 0, 1), 938);
        due.is("late(0, 0, 2)", g.late(0, 0, 2), 480);
        due.is("late(0, 365, 2)", g.late(0, 365, 2), 480);
        due.is("dial(1, 3, 0, 0, 100)", g.dial(1, 3, 0, 0, 100), 0);
        due.is("late(1, 172, 0)", g.late(1, 172, 0), 14);
        due.is("late(1, 172, 1)", g.late(1, 172, 1), 689);
        due.is("late(1, 172, 2)", g.late(1, 172, 2), 780);
        due.is("dial(2, 1, 0, 0, 100)", g.dial(2, 1, 0, 0, 100), 0);
        due.is("face(2, 30000)", g.face(2, 30000), 0);
        due.is("late(2, 172, 0)", g.late(2, 172, 0), 11);
        due.is("late(2, 172, 1)", g.late(2, 172, 1), 439);
        due.is("late(2, 172, 2)", g.late(2, 172, 2), 420);
        due.is("latitude(16384)", g.latitude(16384), 8192);
        due.is("late(0, 0, 0)", g.late(0, 0, 0), Due.NONE);
        due.is("late(0, 0, 1)", g.late(0, 0, 1), Due.NONE);
        due.is("late(0, 0, 2)", g.late(0, 0, 2), 0);
        due.is("late(0, -1, 0)", g.late(0, -1, 0), Due.BAD);
        due.is("late(0, 366, 0)", g.late(0, 366, 0), Due.BAD);
        due.is("late(0, 0, -1)", g.late(0, 0, -1), Due.BAD);
        due.is("late(0, 0, 3)", g.late(0, 0, 3), Due.BAD);
        due.is("late(-1, 0, 0)", g.late(-1, 0, 0), Due.BAD);
        due.is("late(40, 0, 0)", g.late(40, 0, 0), Due.BAD);
        due.is("late(3, 0, 0)", g.late(3, 0, 0), Due.NO);
        due.is("late(3, 366, 0)", g.late(3, 366, 0), Due.BAD);
        due.is("house(3, 0, 0, ends(1, 1), 1)", g.house(3, 0, 0, ends(1, 1), 1), 0);
        due.is("late(3, 0, 0)", g.late(3, 0, 0), Due.NO);
    }

    /** Promises 25 and 26. */
    private static void litStretches(Due due) {
        DialGarden g = new DialGarden();
        due.is("dial(0, 0, 0, 0, 100)", g.dial(0, 0, 0, 0, 100), 0);
        due.is("stretches(0, 80)", g.stretches(0, 80), 1);
        due.is("stretch(0, 80, 0, 0)", g.stretch(0, 80, 0, 0), 361);
        due.is("stretch(0, 80, 0, 1)", g.stretch(0, 80, 0, 1), 1079);
        due.is("stretch(0, 80, 1, 0)", g.stretch(0, 80, 1, 0), Due.NONE);
        due.is("stretch(0, 80, 1, 1)", g.stretch(0, 80, 1, 1), Due.NONE);
        due.is("stretch(0, 80, Integer.MAX_VALUE, 0)", g.stretch(0, 80, Integer.MAX_VALUE, 0), Due.NONE);
        // A chimney in the south breaks the day in two.
        due.is("house(1, -10, -100, ends(10, -100), 500)", g.house(1, -10, -100, ends(10, -100), 500), 0);
        due.is("stretches(0, 80)", g.stretches(0, 80), 2);
        due.is("stretch(0, 80, 0, 0)", g.stretch(0, 80, 0, 0), 361);
        due.is("stretch(0, 80, 0, 1)", g.stretch(0, 80, 0, 1), 704);
        due.is("stretch(0, 80, 1, 0)", g.stretch(0, 80, 1, 0), 736);
        due.is("stretch(0, 80, 1, 1)", g.stretch(0, 80, 1, 1), 1079);
        due.is("stretch(0, 80, 2, 0)", g.stretch(0, 80, 2, 0), Due.NONE);
        due.is("hides(0, 80, 720)", g.hides(0, 80, 720), 1);
        // A wall that faces north sees the summer's sun twice.
        due.is("dial(2, 1, 500, 500, 100)", g.dial(2, 1, 500, 500, 100), 0);
        due.is("stretches(2, 172)", g.stretches(2, 172), 2);
        due.is("stretch(2, 172, 0, 0)", g.stretch(2, 172, 0, 0), 258);
        due.is("stretch(2, 172, 0, 1)", g.stretch(2, 172, 0, 1), 462);
        due.is("stretch(2, 172, 1, 0)", g.stretch(2, 172, 1, 0), 978);
        due.is("stretch(2, 172, 1, 1)", g.stretch(2, 172, 1, 1), 1182);
        due.is("stretches(2, 355)", g.stretches(2, 355), 0);
        due.is("stretch(2, 355, 0, 0)", g.stretch(2, 355, 0, 0), Due.NONE);
        due.is("stretch(2, 355, 0, 1)", g.stretch(2, 355, 0, 1), Due.NONE);
        // On the pole a stretch is the whole day or there is none; none goes on into the next day.
        due.is("drop(1)", g.drop(1), 0);
        due.is("latitude(16384)", g.latitude(16384), 8192);
        due.is("stretches(0, 172)", g.stretches(0, 172), 1);
        due.is("stretch(0, 172, 0, 0)", g.stretch(0, 172, 0, 0), 0);
        due.is("stretch(0, 172, 0, 1)", g.stretch(0, 172, 0, 1), 1439);
        due.is("stretches(0, 355)", g.stretches(0, 355), 0);
        // A dial that looks north there is lit around midnight: the day's two ends are two stretches.
        due.is("stretches(2, 172)", g.stretches(2, 172), 2);
        due.is("stretch(2, 172, 0, 0)", g.stretch(2, 172, 0, 0), 0);
        due.is("stretch(2, 172, 0, 1)", g.stretch(2, 172, 0, 1), 359);
        due.is("stretch(2, 172, 1, 0)", g.stretch(2, 172, 1, 0), 1081);
        due.is("stretch(2, 172, 1, 1)", g.stretch(2, 172, 1, 1), 1439);
    }

    /** Promises 25 and 26: wrong inputs. */
    private static void refusedStretches(Due due) {
        DialGarden g = new DialGarden();
        due.is("dial(0, 0, 0, 0, 100)", g.dial(0, 0, 0, 0, 100), 0);
        due.is("stretches(-1, 0)", g.stretches(-1, 0), Due.BAD);
        due.is("stretches(40, 0)", g.stretches(40, 0), Due.BAD);
        due.is("stretches(0, -1)", g.stretches(0, -1), Due.BAD);
        due.is("stretches(0, 366)", g.stretches(0, 366), Due.BAD);
        due.is("stretches(1, 0)", g.stretches(1, 0), Due.NO);
        due.is("stretches(1, 366)", g.stretches(1, 366), Due.BAD);
        due.is("stretch(-1, 0, 0, 0)", g.stretch(-1, 0, 0, 0), Due.BAD);
        due.is("stretch(40, 0, 0, 0)", g.stretch(40, 0, 0, 0), Due.BAD);
        due.is("stretch(0, -1, 0, 0)", g.stretch(0, -1, 0, 0), Due.BAD);
        due.is("stretch(0, 366, 0, 0)", g.stretch(0, 366, 0, 0), Due.BAD);
        due.is("stretch(0, 0, -1, 0)", g.stretch(0, 0, -1, 0), Due.BAD);
        due.is("stretch(0, 0, Integer.MIN_VALUE, 0)", g.stretch(0, 0, Integer.MIN_VALUE, 0), Due.BAD);
        due.is("stretch(0, 0, 0, -1)", g.stretch(0, 0, 0, -1), Due.BAD);
        due.is("stretch(0, 0, 0, 2)", g.stretch(0, 0, 0, 2), Due.BAD);
        due.is("stretch(1, 0, 0, 0)", g.stretch(1, 0, 0, 0), Due.NO);
        due.is("stretch(1, 0, -1, 0)", g.stretch(1, 0, -1, 0), Due.BAD);
        due.is("house(1, 0, 0, ends(1, 1), 1)", g.house(1, 0, 0, ends(1, 1), 1), 0);
        due.is("stretches(1, 0)", g.stretches(1, 0), Due.NO);
        due.is("stretch(1, 0, 0, 0)", g.stretch(1, 0, 0, 0), Due.NO);
    }
}
