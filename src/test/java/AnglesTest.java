/** Promises 1 to 7: angles and the sun. */
public final class AnglesTest {
    public static void main(String[] args) {
        Due due = new Due();
        newObject(due);
        sines(due);
        latitudes(due);
        correctionRows(due);
        corrects(due);
        copies(due);
        suns(due);
        due.end("AnglesTest");
    }

    /** Promise 1: nothing anywhere. */
    private static void newObject(Due due) {
        DialGarden g = new DialGarden();
        due.is("count(0)", g.count(0), 0);
        due.is("count(1)", g.count(1), 0);
        due.is("count(2)", g.count(2), 0);
        due.is("count(3)", g.count(3), 0);
        due.is("count(4)", g.count(4), 0);
        due.is("count(5)", g.count(5), 0);
        due.is("count(6)", g.count(6), 0);
        due.is("holds(0)", g.holds(0), 0);
        due.is("holds(39)", g.holds(39), 0);
        due.is("undo()", g.undo(), Due.NO);
        due.is("forget()", g.forget(), 0);
        due.is("turn(0)", g.turn(0), Due.BAD);
        due.is("sun(0, 720, 5)", g.sun(0, 720, 5), 0);
        due.is("sun(365, 720, 5)", g.sun(365, 720, 5), 0);
        due.is("correct(0, 0)", g.correct(0, 0), Due.BAD);
        due.is("latitude(8192)", g.latitude(8192), 8192);
    }

    /** Promise 2. */
    private static void sines(Due due) {
        DialGarden g = new DialGarden();
        due.is("sine(0)", g.sine(0), 0);
        due.is("sine(1)", g.sine(1), 1);
        due.is("sine(2)", g.sine(2), 3);
        due.is("sine(5461)", g.sine(5461), 8191);
        due.is("sine(8192)", g.sine(8192), 11565);
        due.is("sine(10923)", g.sine(10923), 14170);
        due.is("sine(16383)", g.sine(16383), 16383);
        due.is("sine(16384)", g.sine(16384), 16384);
        due.is("sine(16385)", g.sine(16385), 16383);
        due.is("sine(24576)", g.sine(24576), 11565);
        due.is("sine(32767)", g.sine(32767), 1);
        due.is("sine(32768)", g.sine(32768), 0);
        due.is("sine(32769)", g.sine(32769), -1);
        due.is("sine(40960)", g.sine(40960), -11565);
        due.is("sine(49151)", g.sine(49151), -16383);
        due.is("sine(49152)", g.sine(49152), -16384);
        due.is("sine(65535)", g.sine(65535), -1);
        due.is("sine(65536)", g.sine(65536), 0);
        due.is("sine(65537)", g.sine(65537), 1);
        due.is("sine(-1)", g.sine(-1), -1);
        due.is("sine(-8192)", g.sine(-8192), -11565);
        due.is("sine(-16384)", g.sine(-16384), -16384);
        due.is("sine(-49152)", g.sine(-49152), 16384);
        due.is("sine(2147483647)", g.sine(2147483647), -1);
        due.is("sine(Integer.MIN_VALUE)", g.sine(Integer.MIN_VALUE), 0);
        due.is("sine(-2147475456)", g.sine(-2147475456), 11565);
    }

    /** Promise 3. */
    private static void latitudes(Due due) {
        DialGarden g = new DialGarden();
        due.is("latitude(16384)", g.latitude(16384), 8192);
        // On the pole the sun stays at one height all day.
        due.is("sun(172, 0, 2)", g.sun(172, 0, 2), 6528);
        due.is("sun(172, 720, 2)", g.sun(172, 720, 2), 6528);
        due.is("latitude(16385)", g.latitude(16385), Due.BAD);
        due.is("latitude(-16385)", g.latitude(-16385), Due.BAD);
        due.is("latitude(Integer.MIN_VALUE)", g.latitude(Integer.MIN_VALUE), Due.BAD);
        due.is("latitude(Integer.MAX_VALUE)", g.latitude(Integer.MAX_VALUE), Due.BAD);
        due.is("latitude(-16384)", g.latitude(-16384), 16384);
        due.is("sun(172, 720, 2)", g.sun(172, 720, 2), -6528);
        due.is("latitude(0)", g.latitude(0), -16384);
        due.is("sun(80, 720, 2)", g.sun(80, 720, 2), 16384);
        due.is("sun(80, 720, 1)", g.sun(80, 720, 1), 0);
        due.is("latitude(0)", g.latitude(0), 0);
    }

    /** Promise 4. */
    private static void correctionRows(Due due) {
        DialGarden g = new DialGarden();
        due.is("corrections(0)", g.corrections(0), 0);
        due.is("count(3)", g.count(3), 0);
        due.is("corrections(366)", g.corrections(366), 366);
        due.is("count(3)", g.count(3), 366);
        due.is("correct(365, 7)", g.correct(365, 7), 0);
        due.is("corrections(367)", g.corrections(367), Due.BAD);
        due.is("corrections(-1)", g.corrections(-1), Due.BAD);
        due.is("corrections(Integer.MIN_VALUE)", g.corrections(Integer.MIN_VALUE), Due.BAD);
        due.is("corrections(Integer.MAX_VALUE)", g.corrections(Integer.MAX_VALUE), Due.BAD);
        due.is("count(3)", g.count(3), 366);
        due.is("sun(365, 0, 5)", g.sun(365, 0, 5), 7);
        due.is("corrections(366)", g.corrections(366), 366);
        due.is("sun(365, 0, 5)", g.sun(365, 0, 5), 0);
        due.is("correct(3, 5)", g.correct(3, 5), 0);
        // Numbers that were cut off are not there again later.
        due.is("corrections(3)", g.corrections(3), 3);
        due.is("sun(3, 0, 5)", g.sun(3, 0, 5), 0);
        due.is("corrections(366)", g.corrections(366), 366);
        due.is("sun(3, 0, 5)", g.sun(3, 0, 5), 0);
        due.is("correct(1, 9)", g.correct(1, 9), 0);
        due.is("corrections(2)", g.corrections(2), 2);
        due.is("sun(1, 0, 5)", g.sun(1, 0, 5), 0);
    }

    /** Promise 5. */
    private static void corrects(Due due) {
        DialGarden g = new DialGarden();
        due.is("correct(0, 0)", g.correct(0, 0), Due.BAD);
        due.is("corrections(3)", g.corrections(3), 3);
        due.is("correct(0, 99)", g.correct(0, 99), 0);
        due.is("correct(0, -99)", g.correct(0, -99), 99);
        due.is("correct(2, 1)", g.correct(2, 1), 0);
        due.is("correct(3, 1)", g.correct(3, 1), Due.BAD);
        due.is("correct(-1, 1)", g.correct(-1, 1), Due.BAD);
        due.is("correct(Integer.MIN_VALUE, 1)", g.correct(Integer.MIN_VALUE, 1), Due.BAD);
        due.is("correct(Integer.MAX_VALUE, 1)", g.correct(Integer.MAX_VALUE, 1), Due.BAD);
        due.is("correct(0, 100)", g.correct(0, 100), Due.BAD);
        due.is("correct(0, -100)", g.correct(0, -100), Due.BAD);
        due.is("correct(0, Integer.MIN_VALUE)", g.correct(0, Integer.MIN_VALUE), Due.BAD);
        due.is("correct(0, Integer.MAX_VALUE)", g.correct(0, Integer.MAX_VALUE), Due.BAD);
        due.is("correct(0, 5)", g.correct(0, 5), -99);
        due.is("sun(0, 720, 5)", g.sun(0, 720, 5), 5);
        due.is("sun(0, 720, 4)", g.sun(0, 720, 4), 227);
        due.is("sun(1, 720, 4)", g.sun(1, 720, 4), 0);
        due.is("sun(0, 715, 4)", g.sun(0, 715, 4), 0);
        due.is("sun(0, 714, 4)", g.sun(0, 714, 4), -46);
        // A day's number moves its sun by minutes.
        due.is("sun(2, 719, 0)", g.sun(2, 719, 0), 0);
        due.is("sun(2, 719, 1)", g.sun(2, 719, 1), -15143);
        due.is("sun(2, 719, 2)", g.sun(2, 719, 2), 6157);
        due.is("corrections(0)", g.corrections(0), 0);
        due.is("sun(2, 720, 0)", g.sun(2, 720, 0), 0);
        due.is("sun(2, 720, 1)", g.sun(2, 720, 1), -15143);
        due.is("sun(2, 720, 2)", g.sun(2, 720, 2), 6157);
    }

    /** Promise 6. */
    private static void copies(Due due) {
        DialGarden g = new DialGarden();
        due.is("copy(0, 0, 0)", g.copy(0, 0, 0), 0);
        due.is("copy(1, 0, 0)", g.copy(1, 0, 0), Due.BAD);
        due.is("copy(0, 1, 0)", g.copy(0, 1, 0), Due.BAD);
        due.is("copy(0, 0, 1)", g.copy(0, 0, 1), Due.BAD);
        due.is("corrections(6)", g.corrections(6), 6);
        due.is("correct(0, 1)", g.correct(0, 1), 0);
        due.is("correct(1, 2)", g.correct(1, 2), 0);
        due.is("correct(2, 3)", g.correct(2, 3), 0);
        due.is("correct(3, 4)", g.correct(3, 4), 0);
        due.is("correct(4, 5)", g.correct(4, 5), 0);
        due.is("correct(5, 6)", g.correct(5, 6), 0);
        // Over itself, to the right: 1 1 2 3 5 6 would be 1 1 1 1 5 6 if each were read when its turn comes.
        due.is("copy(0, 1, 3)", g.copy(0, 1, 3), 0);
        due.is("sun(0, 0, 5)", g.sun(0, 0, 5), 1);
        due.is("sun(1, 0, 5)", g.sun(1, 0, 5), 1);
        due.is("sun(2, 0, 5)", g.sun(2, 0, 5), 2);
        due.is("sun(3, 0, 5)", g.sun(3, 0, 5), 3);
        due.is("sun(4, 0, 5)", g.sun(4, 0, 5), 5);
        due.is("sun(5, 0, 5)", g.sun(5, 0, 5), 6);
        // Over itself, to the left.
        due.is("copy(2, 0, 4)", g.copy(2, 0, 4), 0);
        due.is("sun(0, 0, 5)", g.sun(0, 0, 5), 2);
        due.is("sun(1, 0, 5)", g.sun(1, 0, 5), 3);
        due.is("sun(2, 0, 5)", g.sun(2, 0, 5), 5);
        due.is("sun(3, 0, 5)", g.sun(3, 0, 5), 6);
        due.is("sun(4, 0, 5)", g.sun(4, 0, 5), 5);
        due.is("sun(5, 0, 5)", g.sun(5, 0, 5), 6);
        due.is("copy(0, 0, 6)", g.copy(0, 0, 6), 0);
        due.is("copy(6, 6, 0)", g.copy(6, 6, 0), 0);
        due.is("copy(6, 0, 0)", g.copy(6, 0, 0), 0);
        due.is("copy(0, 6, 0)", g.copy(0, 6, 0), 0);
        due.is("copy(7, 0, 0)", g.copy(7, 0, 0), Due.BAD);
        due.is("copy(0, 7, 0)", g.copy(0, 7, 0), Due.BAD);
        due.is("copy(-1, 0, 0)", g.copy(-1, 0, 0), Due.BAD);
        due.is("copy(0, -1, 0)", g.copy(0, -1, 0), Due.BAD);
        due.is("copy(0, 0, 7)", g.copy(0, 0, 7), Due.BAD);
        due.is("copy(1, 0, 6)", g.copy(1, 0, 6), Due.BAD);
        due.is("copy(0, 1, 6)", g.copy(0, 1, 6), Due.BAD);
        due.is("copy(-1, 0, 1)", g.copy(-1, 0, 1), Due.BAD);
        due.is("copy(0, -1, 1)", g.copy(0, -1, 1), Due.BAD);
        due.is("copy(0, 0, -1)", g.copy(0, 0, -1), Due.BAD);
        due.is("copy(3, 3, -2)", g.copy(3, 3, -2), Due.BAD);
        due.is("copy(0, 0, Integer.MIN_VALUE)", g.copy(0, 0, Integer.MIN_VALUE), Due.BAD);
        due.is("copy(0, 0, Integer.MAX_VALUE)", g.copy(0, 0, Integer.MAX_VALUE), Due.BAD);
        due.is("copy(Integer.MAX_VALUE, 0, 1)", g.copy(Integer.MAX_VALUE, 0, 1), Due.BAD);
        due.is("copy(0, Integer.MAX_VALUE, Integer.MAX_VALUE)", g.copy(0, Integer.MAX_VALUE, Integer.MAX_VALUE), Due.BAD);
        due.is("copy(Integer.MIN_VALUE, Integer.MIN_VALUE, Integer.MIN_VALUE)", g.copy(Integer.MIN_VALUE, Integer.MIN_VALUE, Integer.MIN_VALUE), Due.BAD);
        due.is("sun(0, 0, 5)", g.sun(0, 0, 5), 2);
        due.is("sun(5, 0, 5)", g.sun(5, 0, 5), 6);
        due.is("count(3)", g.count(3), 6);
    }

    /** Promise 7. */
    private static void suns(Due due) {
        DialGarden g = new DialGarden();
        due.is("sun(80, 720, 0)", g.sun(80, 720, 0), 0);
        due.is("sun(80, 720, 1)", g.sun(80, 720, 1), -11565);
        due.is("sun(80, 720, 2)", g.sun(80, 720, 2), 11565);
        due.is("sun(80, 720, 3)", g.sun(80, 720, 3), 0);
        due.is("sun(80, 720, 4)", g.sun(80, 720, 4), 0);
        due.is("sun(80, 720, 5)", g.sun(80, 720, 5), 0);
        // Products that are below 0 round down ahead of what they are taken from.
        due.is("sun(100, 500, 0)", g.sun(100, 500, 0), 13270);
        due.is("sun(100, 500, 1)", g.sun(100, 500, 1), -4952);
        due.is("sun(100, 500, 2)", g.sun(100, 500, 2), 8170);
        due.is("sun(300, 1000, 0)", g.sun(300, 1000, 0), -14927);
        due.is("sun(300, 1000, 1)", g.sun(300, 1000, 1), -6645);
        due.is("sun(300, 1000, 2)", g.sun(300, 1000, 2), 1055);
        due.is("sun(0, 0, 3)", g.sun(0, 0, 3), -4183);
        due.is("sun(0, 0, 4)", g.sun(0, 0, 4), -32768);
        due.is("sun(0, 0, 0)", g.sun(0, 0, 0), 0);
        due.is("sun(0, 0, 1)", g.sun(0, 0, 1), 6113);
        due.is("sun(0, 0, 2)", g.sun(0, 0, 2), -15161);
        due.is("sun(365, 1439, 3)", g.sun(365, 1439, 3), -4197);
        due.is("sun(365, 1439, 4)", g.sun(365, 1439, 4), 32722);
        due.is("sun(79, 1, 3)", g.sun(79, 1, 3), -75);
        due.is("sun(263, 1, 3)", g.sun(263, 1, 3), 0);
        due.is("sun(172, 719, 4)", g.sun(172, 719, 4), -46);
        due.is("sun(172, 721, 4)", g.sun(172, 721, 4), 45);
        // A turn comes out as it is, even beyond a round's half.
        due.is("corrections(366)", g.corrections(366), 366);
        due.is("correct(365, 99)", g.correct(365, 99), 0);
        due.is("sun(365, 1439, 4)", g.sun(365, 1439, 4), 37228);
        due.is("sun(365, 1439, 5)", g.sun(365, 1439, 5), 99);
        due.is("correct(0, -99)", g.correct(0, -99), 0);
        due.is("sun(0, 0, 4)", g.sun(0, 0, 4), -37274);
        due.is("sun(0, 0, 5)", g.sun(0, 0, 5), -99);
        due.is("sun(-1, 0, 0)", g.sun(-1, 0, 0), Due.BAD);
        due.is("sun(366, 0, 0)", g.sun(366, 0, 0), Due.BAD);
        due.is("sun(Integer.MIN_VALUE, 0, 0)", g.sun(Integer.MIN_VALUE, 0, 0), Due.BAD);
        due.is("sun(Integer.MAX_VALUE, 0, 0)", g.sun(Integer.MAX_VALUE, 0, 0), Due.BAD);
        due.is("sun(0, -1, 0)", g.sun(0, -1, 0), Due.BAD);
        due.is("sun(0, 1440, 0)", g.sun(0, 1440, 0), Due.BAD);
        due.is("sun(0, Integer.MIN_VALUE, 0)", g.sun(0, Integer.MIN_VALUE, 0), Due.BAD);
        due.is("sun(0, Integer.MAX_VALUE, 0)", g.sun(0, Integer.MAX_VALUE, 0), Due.BAD);
        due.is("sun(0, 0, -1)", g.sun(0, 0, -1), Due.BAD);
        due.is("sun(0, 0, 6)", g.sun(0, 0, 6), Due.BAD);
        due.is("sun(0, 0, Integer.MIN_VALUE)", g.sun(0, 0, Integer.MIN_VALUE), Due.BAD);
        due.is("sun(0, 0, Integer.MAX_VALUE)", g.sun(0, 0, Integer.MAX_VALUE), Due.BAD);
    }
}
