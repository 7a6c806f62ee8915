/** Promises 27 to 31: sights, the turns that agree with them, and how many there are of what. */
public final class SightsTest {
    public static void main(String[] args) {
        Due due = new Due();
        manySights(due);
        forgets(due);
        turnedStone(due);
        nearness(due);
        kindsThatTurn(due);
        counts(due);
        due.end("SightsTest");
    }

    /** The other end of a house, as house() is told it. */
    private static long ends(int x, int y) {
        return 32768L * (x + 16384) + y + 16384;
    }

    /** Promise 27. */
    private static void manySights(Due due) {
        DialGarden g = new DialGarden();
        due.is("sight(0, 0, -1000000, 1000000)", g.sight(0, 0, -1000000, 1000000), 1);
        due.is("sight(365, 1439, 1000000, -1000000)", g.sight(365, 1439, 1000000, -1000000), 2);
        due.is("sight(-1, 0, 0, 0)", g.sight(-1, 0, 0, 0), Due.BAD);
        due.is("sight(366, 0, 0, 0)", g.sight(366, 0, 0, 0), Due.BAD);
        due.is("sight(0, -1, 0, 0)", g.sight(0, -1, 0, 0), Due.BAD);
        due.is("sight(0, 1440, 0, 0)", g.sight(0, 1440, 0, 0), Due.BAD);
        due.is("sight(0, 0, 1000001, 0)", g.sight(0, 0, 1000001, 0), Due.BAD);
        due.is("sight(0, 0, -1000001, 0)", g.sight(0, 0, -1000001, 0), Due.BAD);
        due.is("sight(0, 0, 0, 1000001)", g.sight(0, 0, 0, 1000001), Due.BAD);
        due.is("sight(0, 0, 0, -1000001)", g.sight(0, 0, 0, -1000001), Due.BAD);
        due.is("sight(0, 0, Integer.MIN_VALUE, 0)", g.sight(0, 0, Integer.MIN_VALUE, 0), Due.BAD);
        due.is("sight(Integer.MAX_VALUE, 0, 0, 0)", g.sight(Integer.MAX_VALUE, 0, 0, 0), Due.BAD);
        due.is("count(4)", g.count(4), 2);
        due.is("sight(3, 703, 3, -3)", g.sight(3, 703, 3, -3), 3);
        due.is("sight(4, 704, 4, -4)", g.sight(4, 704, 4, -4), 4);
        due.is("sight(5, 705, 5, -5)", g.sight(5, 705, 5, -5), 5);
        due.is("sight(6, 706, 6, -6)", g.sight(6, 706, 6, -6), 6);
        due.is("sight(7, 707, 7, -7)", g.sight(7, 707, 7, -7), 7);
        due.is("sight(8, 708, 8, -8)", g.sight(8, 708, 8, -8), 8);
        due.is("sight(9, 709, 9, -9)", g.sight(9, 709, 9, -9), 9);
        due.is("sight(10, 710, 10, -10)", g.sight(10, 710, 10, -10), 10);
        due.is("sight(11, 711, 11, -11)", g.sight(11, 711, 11, -11), 11);
        due.is("sight(12, 712, 12, -12)", g.sight(12, 712, 12, -12), 12);
        due.is("sight(13, 713, 13, -13)", g.sight(13, 713, 13, -13), 13);
        due.is("sight(14, 714, 14, -14)", g.sight(14, 714, 14, -14), 14);
        due.is("sight(15, 715, 15, -15)", g.sight(15, 715, 15, -15), 15);
        due.is("sight(16, 716, 16, -16)", g.sight(16, 716, 16, -16), 16);
        due.is("sight(17, 717, 17, -17)", g.sight(17, 717, 17, -17), 17);
        due.is("sight(18, 718, 18, -18)", g.sight(18, 718, 18, -18), 18);
        due.is("sight(19, 719, 19, -19)", g.sight(19, 719, 19, -19), 19);
        due.is("sight(20, 720, 20, -20)", g.sight(20, 720, 20, -20), 20);
        due.is("count(4)", g.count(4), 20);
        due.is("sight(0, 0, 0, 0)", g.sight(0, 0, 0, 0), Due.FULL);
        // What is wrong is BAD, full or not.
        due.is("sight(366, 0, 0, 0)", g.sight(366, 0, 0, 0), Due.BAD);
        due.is("sight(0, 0, 1000001, 0)", g.sight(0, 0, 1000001, 0), Due.BAD);
        due.is("count(4)", g.count(4), 20);
    }

    /** Promise 28. */
    private static void forgets(Due due) {
        DialGarden g = new DialGarden();
        due.is("forget()", g.forget(), 0);
        due.is("sight(0, 0, 0, 0)", g.sight(0, 0, 0, 0), 1);
        due.is("sight(0, 0, 0, 0)", g.sight(0, 0, 0, 0), 2);
        due.is("forget()", g.forget(), 2);
        due.is("count(4)", g.count(4), 0);
        due.is("forget()", g.forget(), 0);
        due.is("sight(0, 0, 0, 0)", g.sight(0, 0, 0, 0), 1);
        due.is("sight(0, 0, 0, 0)", g.sight(0, 0, 0, 0), 2);
        due.is("sight(0, 0, 0, 0)", g.sight(0, 0, 0, 0), 3);
        due.is("sight(0, 0, 0, 0)", g.sight(0, 0, 0, 0), 4);
        due.is("sight(0, 0, 0, 0)", g.sight(0, 0, 0, 0), 5);
        due.is("sight(0, 0, 0, 0)", g.sight(0, 0, 0, 0), 6);
        due.is("sight(0, 0, 0, 0)", g.sight(0, 0, 0, 0), 7);
        due.is("sight(0, 0, 0, 0)", g.sight(0, 0, 0, 0), 8);
        due.is("sight(0, 0, 0, 0)", g.sight(0, 0, 0, 0), 9);
        due.is("sight(0, 0, 0, 0)", g.sight(0, 0, 0, 0), 10);
        due.is("sight(0, 0, 0, 0)", g.sight(0, 0, 0, 0), 11);
        due.is("sight(0, 0, 0, 0)", g.sight(0, 0, 0, 0), 12);
        due.is("sight(0, 0, 0, 0)", g.sight(0, 0, 0, 0), 13);
        due.is("sight(0, 0, 0, 0)", g.sight(0, 0, 0, 0), 14);
        due.is("sight(0, 0, 0, 0)", g.sight(0, 0, 0, 0), 15);
        due.is("sight(0, 0, 0, 0)", g.sight(0, 0, 0, 0), 16);
        due.is("sight(0, 0, 0, 0)", g.sight(0, 0, 0, 0), 17);
        due.is("sight(0, 0, 0, 0)", g.sight(0, 0, 0, 0), 18);
        due.is("sight(0, 0, 0, 0)", g.sight(0, 0, 0, 0), 19);
        due.is("sight(0, 0, 0, 0)", g.sight(0, 0, 0, 0), 20);
        due.is("sight(0, 0, 0, 0)", g.sight(0, 0, 0, 0), Due.FULL);
        due.is("forget()", g.forget(), 20);
        due.is("sight(0, 0, 0, 0)", g.sight(0, 0, 0, 0), 1);
        // It is no change of the garden.
        due.is("count(5)", g.count(5), 0);
    }

    /** Promises 29 and 30: the ends of a dial that faces 32900, seen on one that is said to face 32768. */
    private static void turnedStone(Due due) {
        DialGarden g = new DialGarden();
        due.is("dial(0, 1, 0, 0, 1000)", g.dial(0, 1, 0, 0, 1000), 0);
        due.is("face(0, 32768)", g.face(0, 32768), 0);
        due.is("found(0)", g.found(0), Due.NO);
        due.is("sight(60, 700, 123, -754)", g.sight(60, 700, 123, -754), 1);
        due.is("sight(90, 760, -258, -1153)", g.sight(90, 760, -258, -1153), 2);
        due.is("found(0)", g.found(0), Due.NO);
        due.is("count(6)", g.count(6), 0);
        due.is("sight(30, 650, 350, -499)", g.sight(30, 650, 350, -499), 3);
        due.is("found(0)", g.found(0), 25);
        due.is("turn(0)", g.turn(0), 123);
        due.is("turn(1)", g.turn(1), 124);
        due.is("turn(2)", g.turn(2), 125);
        due.is("turn(3)", g.turn(3), 126);
        due.is("turn(50)", g.turn(50), Due.BAD);
        due.is("turn(-1)", g.turn(-1), Due.BAD);
        due.is("turn(Integer.MIN_VALUE)", g.turn(Integer.MIN_VALUE), Due.BAD);
        due.is("turn(Integer.MAX_VALUE)", g.turn(Integer.MAX_VALUE), Due.BAD);
        due.is("count(6)", g.count(6), 25);
        // They are kept till the next found() that is not refused.
        due.is("forget()", g.forget(), 3);
        due.is("count(6)", g.count(6), 25);
        due.is("found(0)", g.found(0), Due.NO);
        due.is("found(40)", g.found(40), Due.BAD);
        due.is("found(-1)", g.found(-1), Due.BAD);
        due.is("found(7)", g.found(7), Due.NO);
        due.is("count(6)", g.count(6), 25);
        due.is("turn(0)", g.turn(0), 123);
        due.is("drop(0)", g.drop(0), 0);
        due.is("count(6)", g.count(6), 25);
        due.is("turn(0)", g.turn(0), 123);
        due.is("undo()", g.undo(), 0);
        due.is("sight(60, 700, 123, -754)", g.sight(60, 700, 123, -754), 1);
        due.is("sight(90, 760, -258, -1153)", g.sight(90, 760, -258, -1153), 2);
        due.is("sight(30, 650, 350, -499)", g.sight(30, 650, 350, -499), 3);
        // Turned by less than 300 either way it is found, by more not.
        due.is("face(0, 33200)", g.face(0, 33200), 32768);
        due.is("found(0)", g.found(0), 16);
        due.is("turn(0)", g.turn(0), -300);
        due.is("face(0, 32600)", g.face(0, 32600), 33200);
        due.is("found(0)", g.found(0), 10);
        due.is("turn(0)", g.turn(0), 291);
        due.is("face(0, 33203)", g.face(0, 33203), 32600);
        due.is("found(0)", g.found(0), 13);
        due.is("turn(0)", g.turn(0), -300);
        due.is("face(0, 32596)", g.face(0, 32596), 33203);
        due.is("found(0)", g.found(0), 6);
        due.is("turn(0)", g.turn(0), 295);
        due.is("face(0, 33500)", g.face(0, 33500), 32596);
        due.is("found(0)", g.found(0), 0);
        due.is("turn(0)", g.turn(0), Due.BAD);
        due.is("count(6)", g.count(6), 0);
        due.is("face(0, 32900)", g.face(0, 32900), 33500);
        due.is("found(0)", g.found(0), 25);
        due.is("turn(0)", g.turn(0), -9);
        due.is("turn(1)", g.turn(1), -8);
    }

    /** Promise 29: a number of the end may be 1 off, but not 2. */
    private static void nearness(Due due) {
        DialGarden g = new DialGarden();
        due.is("dial(0, 1, 0, 0, 1)", g.dial(0, 1, 0, 0, 1), 0);
        due.is("face(0, 32768)", g.face(0, 32768), 0);
        due.is("end(0, 80, 720, 0)", g.end(0, 80, 720, 0), 0);
        due.is("end(0, 80, 720, 1)", g.end(0, 80, 720, 1), -1);
        due.is("sight(80, 720, 0, -1)", g.sight(80, 720, 0, -1), 1);
        due.is("sight(80, 720, 0, -1)", g.sight(80, 720, 0, -1), 2);
        due.is("sight(80, 720, 0, -1)", g.sight(80, 720, 0, -1), 3);
        due.is("found(0)", g.found(0), 601);
        due.is("turn(0)", g.turn(0), -300);
        due.is("turn(300)", g.turn(300), 0);
        due.is("turn(600)", g.turn(600), 300);
        due.is("turn(601)", g.turn(601), Due.BAD);
        due.is("count(6)", g.count(6), 601);
        due.is("forget()", g.forget(), 3);
        due.is("sight(80, 720, 1, 0)", g.sight(80, 720, 1, 0), 1);
        due.is("sight(80, 720, 1, -1)", g.sight(80, 720, 1, -1), 2);
        due.is("sight(80, 720, 1, -2)", g.sight(80, 720, 1, -2), 3);
        due.is("found(0)", g.found(0), 1);
        due.is("turn(0)", g.turn(0), 0);
        due.is("sight(80, 720, 2, -1)", g.sight(80, 720, 2, -1), 4);
        due.is("found(0)", g.found(0), 0);
        due.is("forget()", g.forget(), 4);
        due.is("sight(80, 720, -1, -1)", g.sight(80, 720, -1, -1), 1);
        due.is("sight(80, 720, -1, -1)", g.sight(80, 720, -1, -1), 2);
        due.is("sight(80, 720, -1, -1)", g.sight(80, 720, -1, -1), 3);
        due.is("found(0)", g.found(0), 601);
        due.is("turn(0)", g.turn(0), -300);
        due.is("sight(80, 720, -2, -1)", g.sight(80, 720, -2, -1), 4);
        due.is("found(0)", g.found(0), 300);
        due.is("forget()", g.forget(), 4);
        due.is("sight(80, 720, 0, 1)", g.sight(80, 720, 0, 1), 1);
        due.is("sight(80, 720, 0, 1)", g.sight(80, 720, 0, 1), 2);
        due.is("sight(80, 720, 0, 1)", g.sight(80, 720, 0, 1), 3);
        due.is("found(0)", g.found(0), 0);
        due.is("forget()", g.forget(), 3);
        due.is("sight(80, 720, 0, -3)", g.sight(80, 720, 0, -3), 1);
        due.is("sight(80, 720, 0, -3)", g.sight(80, 720, 0, -3), 2);
        due.is("sight(80, 720, 0, -3)", g.sight(80, 720, 0, -3), 3);
        due.is("found(0)", g.found(0), 600);
        due.is("turn(0)", g.turn(0), -300);
        due.is("turn(1)", g.turn(1), -299);
    }

    /** Promise 29: upright dials alone, lit at each sight. */
    private static void kindsThatTurn(Due due) {
        DialGarden g = new DialGarden();
        due.is("dial(0, 0, 0, 0, 1)", g.dial(0, 0, 0, 0, 1), 0);
        due.is("dial(1, 1, 0, 0, 1)", g.dial(1, 1, 0, 0, 1), 0);
        due.is("dial(2, 2, 0, 0, 1)", g.dial(2, 2, 0, 0, 1), 0);
        due.is("dial(3, 3, 0, 0, 1)", g.dial(3, 3, 0, 0, 1), 0);
        due.is("dial(4, 4, 0, 0, 1)", g.dial(4, 4, 0, 0, 1), 0);
        due.is("house(5, 5000, 5000, ends(5001, 5000), 1)", g.house(5, 5000, 5000, ends(5001, 5000), 1), 0);
        due.is("face(1, 32768)", g.face(1, 32768), 0);
        due.is("face(2, 32768)", g.face(2, 32768), 0);
        due.is("face(4, 32768)", g.face(4, 32768), 0);
        due.is("tilt(4, 16384)", g.tilt(4, 16384), 8192);
        due.is("sight(80, 720, 0, -1)", g.sight(80, 720, 0, -1), 1);
        due.is("sight(80, 720, 0, -1)", g.sight(80, 720, 0, -1), 2);
        due.is("found(1)", g.found(1), Due.NO);
        due.is("sight(80, 720, 0, -1)", g.sight(80, 720, 0, -1), 3);
        due.is("found(0)", g.found(0), Due.NO);
        due.is("found(3)", g.found(3), Due.NO);
        due.is("found(5)", g.found(5), Due.NO);
        due.is("found(6)", g.found(6), Due.NO);
        due.is("found(-1)", g.found(-1), Due.BAD);
        due.is("found(40)", g.found(40), Due.BAD);
        due.is("found(Integer.MIN_VALUE)", g.found(Integer.MIN_VALUE), Due.BAD);
        due.is("found(1)", g.found(1), 601);
        due.is("found(2)", g.found(2), 601);
        due.is("found(4)", g.found(4), 601);
        due.is("left(4, 12, 0)", g.left(4, 12, 0), 1);
        due.is("found(4)", g.found(4), 601);
        // Behind a house, in the dark, or from behind it agrees with no turn.
        due.is("house(5, -100, -50, ends(100, -50), 100)", g.house(5, -100, -50, ends(100, -50), 100), 0);
        due.is("found(1)", g.found(1), 0);
        due.is("undo()", g.undo(), 5);
        due.is("found(1)", g.found(1), 601);
        due.is("sight(80, 0, 0, -1)", g.sight(80, 0, 0, -1), 4);
        due.is("found(1)", g.found(1), 0);
        due.is("forget()", g.forget(), 4);
        due.is("sight(80, 720, 0, -1)", g.sight(80, 720, 0, -1), 1);
        due.is("sight(80, 720, 0, -1)", g.sight(80, 720, 0, -1), 2);
        due.is("sight(80, 720, 0, -1)", g.sight(80, 720, 0, -1), 3);
        due.is("face(1, 0)", g.face(1, 0), 32768);
        due.is("found(1)", g.found(1), 0);
        // A turn goes past the end of the round.
        due.is("latitude(-8192)", g.latitude(-8192), 8192);
        due.is("end(1, 80, 720, 0)", g.end(1, 80, 720, 0), 0);
        due.is("end(1, 80, 720, 1)", g.end(1, 80, 720, 1), -1);
        due.is("found(1)", g.found(1), 601);
        due.is("turn(0)", g.turn(0), -300);
        due.is("face(1, 65535)", g.face(1, 65535), 0);
        due.is("found(1)", g.found(1), 601);
        due.is("dial(1, 1, 0, 0, 1000)", g.dial(1, 1, 0, 0, 1000), 0);
        due.is("face(1, 100)", g.face(1, 100), 0);
        due.is("forget()", g.forget(), 3);
        due.is("end(1, 80, 700, 0)", g.end(1, 80, 700, 0), -116);
        due.is("end(1, 80, 700, 1)", g.end(1, 80, 700, 1), -999);
        due.is("end(1, 60, 740, 0)", g.end(1, 60, 740, 0), 155);
        due.is("end(1, 60, 740, 1)", g.end(1, 60, 740, 1), -1331);
    }

    /** Promise 31. */
    private static void counts(Due due) {
        DialGarden g = new DialGarden();
        due.is("dial(0, 1, 0, 0, 1)", g.dial(0, 1, 0, 0, 1), 0);
        due.is("face(0, 32768)", g.face(0, 32768), 0);
        due.is("dial(39, 3, 0, 0, 1)", g.dial(39, 3, 0, 0, 1), 0);
        due.is("house(20, 100, 100, ends(101, 100), 1)", g.house(20, 100, 100, ends(101, 100), 1), 0);
        due.is("corrections(5)", g.corrections(5), 5);
        due.is("sight(80, 720, 0, -1)", g.sight(80, 720, 0, -1), 1);
        due.is("sight(80, 720, 0, -1)", g.sight(80, 720, 0, -1), 2);
        due.is("sight(80, 720, 0, -1)", g.sight(80, 720, 0, -1), 3);
        due.is("sight(80, 720, 0, -1)", g.sight(80, 720, 0, -1), 4);
        due.is("found(0)", g.found(0), 601);
        due.is("count(0)", g.count(0), 3);
        due.is("count(1)", g.count(1), 2);
        due.is("count(2)", g.count(2), 1);
        due.is("count(3)", g.count(3), 5);
        due.is("count(4)", g.count(4), 4);
        due.is("count(5)", g.count(5), 4);
        due.is("count(6)", g.count(6), 601);
        due.is("drop(20)", g.drop(20), 0);
        due.is("count(0)", g.count(0), 2);
        due.is("count(2)", g.count(2), 0);
        due.is("count(5)", g.count(5), 5);
        due.is("count(-1)", g.count(-1), Due.BAD);
        due.is("count(7)", g.count(7), Due.BAD);
        due.is("count(Integer.MIN_VALUE)", g.count(Integer.MIN_VALUE), Due.BAD);
        due.is("count(Integer.MAX_VALUE)", g.count(Integer.MAX_VALUE), Due.BAD);
    }
}
