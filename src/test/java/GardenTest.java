/** Promises 8 to 18: the garden, and changes that are taken back. */
public final class GardenTest {
    public static void main(String[] args) {
        Due due = new Due();
        newDials(due);
        newHouses(due);
        drops(due);
        moves(due);
        faces(due);
        tilts(due);
        hoursLeft(due);
        holdings(due);
        properties(due);
        undoes(due);
        latestSixteen(due);
        keptAgain(due);
        due.end("GardenTest");
    }

    /** The other end of a house, as house() is told it. */
    private static long ends(int x, int y) {
        return 32768L * (x + 16384) + y + 16384;
    }

    /** Promise 8. */
    private static void newDials(Due due) {
        DialGarden g = new DialGarden();
        due.is("dial(0, 0, -10000, 10000, 1)", g.dial(0, 0, -10000, 10000, 1), 0);
        due.is("about(0, 0)", g.about(0, 0), -10000);
        due.is("about(0, 1)", g.about(0, 1), 10000);
        due.is("about(0, 2)", g.about(0, 2), 1);
        due.is("dial(39, 4, 10000, -10000, 1000)", g.dial(39, 4, 10000, -10000, 1000), 0);
        due.is("about(39, 0)", g.about(39, 0), 10000);
        due.is("about(39, 1)", g.about(39, 1), -10000);
        due.is("about(39, 2)", g.about(39, 2), 1000);
        due.is("about(39, 3)", g.about(39, 3), 0);
        due.is("about(39, 4)", g.about(39, 4), 8192);
        due.is("about(39, 5)", g.about(39, 5), 24);
        due.is("dial(-1, 0, 0, 0, 1)", g.dial(-1, 0, 0, 0, 1), Due.BAD);
        due.is("dial(40, 0, 0, 0, 1)", g.dial(40, 0, 0, 0, 1), Due.BAD);
        due.is("dial(Integer.MIN_VALUE, 0, 0, 0, 1)", g.dial(Integer.MIN_VALUE, 0, 0, 0, 1), Due.BAD);
        due.is("dial(Integer.MAX_VALUE, 0, 0, 0, 1)", g.dial(Integer.MAX_VALUE, 0, 0, 0, 1), Due.BAD);
        due.is("dial(0, -1, 0, 0, 1)", g.dial(0, -1, 0, 0, 1), Due.BAD);
        due.is("dial(0, 5, 0, 0, 1)", g.dial(0, 5, 0, 0, 1), Due.BAD);
        due.is("dial(0, Integer.MIN_VALUE, 0, 0, 1)", g.dial(0, Integer.MIN_VALUE, 0, 0, 1), Due.BAD);
        due.is("dial(0, Integer.MAX_VALUE, 0, 0, 1)", g.dial(0, Integer.MAX_VALUE, 0, 0, 1), Due.BAD);
        due.is("dial(0, 0, -10001, 0, 1)", g.dial(0, 0, -10001, 0, 1), Due.BAD);
        due.is("dial(0, 0, 10001, 0, 1)", g.dial(0, 0, 10001, 0, 1), Due.BAD);
        due.is("dial(0, 0, 0, -10001, 1)", g.dial(0, 0, 0, -10001, 1), Due.BAD);
        due.is("dial(0, 0, 0, 10001, 1)", g.dial(0, 0, 0, 10001, 1), Due.BAD);
        due.is("dial(0, 0, 0, 0, 0)", g.dial(0, 0, 0, 0, 0), Due.BAD);
        due.is("dial(0, 0, 0, 0, 1001)", g.dial(0, 0, 0, 0, 1001), Due.BAD);
        due.is("dial(0, 0, 0, 0, Integer.MIN_VALUE)", g.dial(0, 0, 0, 0, Integer.MIN_VALUE), Due.BAD);
        due.is("count(5)", g.count(5), 2);
        due.is("about(0, 0)", g.about(0, 0), -10000);
        // Instead of what it held: nothing of the old one is left.
        due.is("face(39, 77)", g.face(39, 77), 0);
        due.is("tilt(39, 5)", g.tilt(39, 5), 8192);
        due.is("left(39, 0, 0)", g.left(39, 0, 0), 1);
        due.is("dial(39, 4, 1, 2, 3)", g.dial(39, 4, 1, 2, 3), 0);
        due.is("about(39, 0)", g.about(39, 0), 1);
        due.is("about(39, 1)", g.about(39, 1), 2);
        due.is("about(39, 2)", g.about(39, 2), 3);
        due.is("about(39, 3)", g.about(39, 3), 0);
        due.is("about(39, 4)", g.about(39, 4), 8192);
        due.is("about(39, 5)", g.about(39, 5), 24);
        due.is("count(0)", g.count(0), 2);
        due.is("house(7, 0, 0, ends(5, 5), 9)", g.house(7, 0, 0, ends(5, 5), 9), 0);
        due.is("dial(7, 3, 4, 5, 6)", g.dial(7, 3, 4, 5, 6), 0);
        due.is("holds(7)", g.holds(7), 5);
    }

    /** Promise 9. */
    private static void newHouses(Due due) {
        DialGarden g = new DialGarden();
        due.is("house(0, -10000, 10000, ends(10000, -10000), 1)", g.house(0, -10000, 10000, ends(10000, -10000), 1), 0);
        due.is("about(0, 0)", g.about(0, 0), -10000);
        due.is("about(0, 1)", g.about(0, 1), 10000);
        due.is("about(0, 2)", g.about(0, 2), 10000);
        due.is("about(0, 3)", g.about(0, 3), -10000);
        due.is("about(0, 4)", g.about(0, 4), 1);
        due.is("about(0, 5)", g.about(0, 5), Due.NONE);
        due.is("house(39, 10000, -10000, ends(-10000, 10000), 10000)", g.house(39, 10000, -10000, ends(-10000, 10000), 10000), 0);
        due.is("about(39, 2)", g.about(39, 2), -10000);
        due.is("about(39, 3)", g.about(39, 3), 10000);
        due.is("about(39, 4)", g.about(39, 4), 10000);
        due.is("house(1, 0, 0, 563790784, 500)", g.house(1, 0, 0, 563790784, 500), 0);
        due.is("about(1, 2)", g.about(1, 2), 821);
        due.is("about(1, 3)", g.about(1, 3), 960);
        due.is("house(2, 0, 0, ends(10001, 0), 5)", g.house(2, 0, 0, ends(10001, 0), 5), Due.BAD);
        due.is("house(2, 0, 0, ends(-10001, 0), 5)", g.house(2, 0, 0, ends(-10001, 0), 5), Due.BAD);
        due.is("house(2, 0, 0, ends(0, 10001), 5)", g.house(2, 0, 0, ends(0, 10001), 5), Due.BAD);
        due.is("house(2, 0, 0, ends(0, -10001), 5)", g.house(2, 0, 0, ends(0, -10001), 5), Due.BAD);
        due.is("house(2, 3, 4, ends(3, 4), 5)", g.house(2, 3, 4, ends(3, 4), 5), Due.BAD);
        due.is("house(2, 3, 4, ends(3, 5), 5)", g.house(2, 3, 4, ends(3, 5), 5), 0);
        due.is("house(2, 3, 4, ends(2, 4), 5)", g.house(2, 3, 4, ends(2, 4), 5), 0);
        due.is("house(3, 0, 0, -1, 5)", g.house(3, 0, 0, -1, 5), Due.BAD);
        due.is("house(3, 0, 0, 0, 5)", g.house(3, 0, 0, 0, 5), Due.BAD);
        due.is("house(3, 0, 0, 1073741823, 5)", g.house(3, 0, 0, 1073741823, 5), Due.BAD);
        due.is("house(3, 0, 0, 1073741824, 5)", g.house(3, 0, 0, 1073741824, 5), Due.BAD);
        // These would be fine if they were cut to 30 or 32 bits.
        due.is("house(3, 0, 0, 1610973284, 5)", g.house(3, 0, 0, 1610973284, 5), Due.BAD);
        due.is("house(3, 0, 0, 4832198756L, 5)", g.house(3, 0, 0, 4832198756L, 5), Due.BAD);
        due.is("house(3, 0, 0, Long.MIN_VALUE, 5)", g.house(3, 0, 0, Long.MIN_VALUE, 5), Due.BAD);
        due.is("house(3, 0, 0, Long.MAX_VALUE, 5)", g.house(3, 0, 0, Long.MAX_VALUE, 5), Due.BAD);
        due.is("house(3, 10001, 0, ends(0, 0), 5)", g.house(3, 10001, 0, ends(0, 0), 5), Due.BAD);
        due.is("house(3, -10001, 0, ends(0, 0), 5)", g.house(3, -10001, 0, ends(0, 0), 5), Due.BAD);
        due.is("house(3, 0, 10001, ends(0, 0), 5)", g.house(3, 0, 10001, ends(0, 0), 5), Due.BAD);
        due.is("house(3, 0, -10001, ends(0, 0), 5)", g.house(3, 0, -10001, ends(0, 0), 5), Due.BAD);
        due.is("house(3, 0, 0, ends(1, 0), 0)", g.house(3, 0, 0, ends(1, 0), 0), Due.BAD);
        due.is("house(3, 0, 0, ends(1, 0), 10001)", g.house(3, 0, 0, ends(1, 0), 10001), Due.BAD);
        due.is("house(3, 0, 0, ends(1, 0), Integer.MIN_VALUE)", g.house(3, 0, 0, ends(1, 0), Integer.MIN_VALUE), Due.BAD);
        due.is("house(-1, 0, 0, ends(1, 0), 5)", g.house(-1, 0, 0, ends(1, 0), 5), Due.BAD);
        due.is("house(40, 0, 0, ends(1, 0), 5)", g.house(40, 0, 0, ends(1, 0), 5), Due.BAD);
        due.is("holds(3)", g.holds(3), 0);
        due.is("count(5)", g.count(5), 5);
        due.is("count(2)", g.count(2), 4);
        due.is("dial(3, 2, 0, 0, 5)", g.dial(3, 2, 0, 0, 5), 0);
        due.is("house(3, 0, 0, ends(1, 0), 5)", g.house(3, 0, 0, ends(1, 0), 5), 0);
        due.is("holds(3)", g.holds(3), 1);
        due.is("count(0)", g.count(0), 5);
    }

    /** Promise 10. */
    private static void drops(Due due) {
        DialGarden g = new DialGarden();
        due.is("drop(0)", g.drop(0), Due.NO);
        due.is("drop(-1)", g.drop(-1), Due.BAD);
        due.is("drop(40)", g.drop(40), Due.BAD);
        due.is("drop(Integer.MIN_VALUE)", g.drop(Integer.MIN_VALUE), Due.BAD);
        due.is("drop(Integer.MAX_VALUE)", g.drop(Integer.MAX_VALUE), Due.BAD);
        due.is("count(5)", g.count(5), 0);
        due.is("dial(0, 1, 0, 0, 5)", g.dial(0, 1, 0, 0, 5), 0);
        due.is("house(39, 0, 0, ends(1, 0), 5)", g.house(39, 0, 0, ends(1, 0), 5), 0);
        due.is("drop(0)", g.drop(0), 0);
        due.is("holds(0)", g.holds(0), 0);
        due.is("drop(0)", g.drop(0), Due.NO);
        due.is("drop(39)", g.drop(39), 0);
        due.is("holds(39)", g.holds(39), 0);
        due.is("count(0)", g.count(0), 0);
        due.is("count(5)", g.count(5), 4);
    }

    /** Promise 11. */
    private static void moves(Due due) {
        DialGarden g = new DialGarden();
        due.is("dial(0, 4, 1, 2, 5)", g.dial(0, 4, 1, 2, 5), 0);
        due.is("left(0, 3, 0)", g.left(0, 3, 0), 1);
        due.is("tilt(0, 100)", g.tilt(0, 100), 8192);
        due.is("face(0, 200)", g.face(0, 200), 0);
        due.is("move(0, -10000, 10000)", g.move(0, -10000, 10000), 0);
        due.is("about(0, 0)", g.about(0, 0), -10000);
        due.is("about(0, 1)", g.about(0, 1), 10000);
        due.is("about(0, 2)", g.about(0, 2), 5);
        due.is("about(0, 3)", g.about(0, 3), 200);
        due.is("about(0, 4)", g.about(0, 4), 100);
        due.is("about(0, 5)", g.about(0, 5), 23);
        due.is("holds(0)", g.holds(0), 6);
        due.is("move(0, 10000, -10000)", g.move(0, 10000, -10000), 0);
        due.is("move(0, 10001, 0)", g.move(0, 10001, 0), Due.BAD);
        due.is("move(0, -10001, 0)", g.move(0, -10001, 0), Due.BAD);
        due.is("move(0, 0, 10001)", g.move(0, 0, 10001), Due.BAD);
        due.is("move(0, 0, -10001)", g.move(0, 0, -10001), Due.BAD);
        due.is("move(-1, 0, 0)", g.move(-1, 0, 0), Due.BAD);
        due.is("move(40, 0, 0)", g.move(40, 0, 0), Due.BAD);
        due.is("move(1, 0, 0)", g.move(1, 0, 0), Due.NO);
        due.is("move(1, 10001, 0)", g.move(1, 10001, 0), Due.BAD);
        due.is("house(1, 0, 0, ends(1, 0), 5)", g.house(1, 0, 0, ends(1, 0), 5), 0);
        due.is("move(1, 0, 0)", g.move(1, 0, 0), Due.NO);
        due.is("about(0, 0)", g.about(0, 0), 10000);
        due.is("about(0, 1)", g.about(0, 1), -10000);
        due.is("count(5)", g.count(5), 7);
    }

    /** Promise 12. */
    private static void faces(Due due) {
        DialGarden g = new DialGarden();
        due.is("dial(0, 0, 0, 0, 5)", g.dial(0, 0, 0, 0, 5), 0);
        due.is("dial(1, 1, 0, 0, 5)", g.dial(1, 1, 0, 0, 5), 0);
        due.is("dial(2, 2, 0, 0, 5)", g.dial(2, 2, 0, 0, 5), 0);
        due.is("dial(3, 3, 0, 0, 5)", g.dial(3, 3, 0, 0, 5), 0);
        due.is("dial(4, 4, 0, 0, 5)", g.dial(4, 4, 0, 0, 5), 0);
        due.is("house(5, 0, 0, ends(1, 0), 5)", g.house(5, 0, 0, ends(1, 0), 5), 0);
        due.is("face(0, 1)", g.face(0, 1), Due.NO);
        due.is("face(3, 1)", g.face(3, 1), Due.NO);
        due.is("face(5, 1)", g.face(5, 1), Due.NO);
        due.is("face(6, 1)", g.face(6, 1), Due.NO);
        due.is("face(1, 65535)", g.face(1, 65535), 0);
        due.is("face(1, 0)", g.face(1, 0), 65535);
        due.is("face(1, 7)", g.face(1, 7), 0);
        due.is("face(2, 8)", g.face(2, 8), 0);
        due.is("face(4, 9)", g.face(4, 9), 0);
        due.is("about(1, 3)", g.about(1, 3), 7);
        due.is("about(2, 3)", g.about(2, 3), 8);
        due.is("about(4, 3)", g.about(4, 3), 9);
        due.is("face(1, -1)", g.face(1, -1), Due.BAD);
        due.is("face(1, 65536)", g.face(1, 65536), Due.BAD);
        due.is("face(1, Integer.MIN_VALUE)", g.face(1, Integer.MIN_VALUE), Due.BAD);
        due.is("face(1, Integer.MAX_VALUE)", g.face(1, Integer.MAX_VALUE), Due.BAD);
        due.is("face(0, 65536)", g.face(0, 65536), Due.BAD);
        due.is("face(6, -1)", g.face(6, -1), Due.BAD);
        due.is("face(-1, 0)", g.face(-1, 0), Due.BAD);
        due.is("face(40, 0)", g.face(40, 0), Due.BAD);
        due.is("about(1, 3)", g.about(1, 3), 7);
        due.is("about(4, 4)", g.about(4, 4), 8192);
        due.is("about(4, 5)", g.about(4, 5), 24);
        due.is("count(5)", g.count(5), 11);
    }

    /** Promise 13. */
    private static void tilts(Due due) {
        DialGarden g = new DialGarden();
        due.is("dial(0, 0, 0, 0, 5)", g.dial(0, 0, 0, 0, 5), 0);
        due.is("dial(1, 1, 0, 0, 5)", g.dial(1, 1, 0, 0, 5), 0);
        due.is("dial(2, 2, 0, 0, 5)", g.dial(2, 2, 0, 0, 5), 0);
        due.is("dial(3, 3, 0, 0, 5)", g.dial(3, 3, 0, 0, 5), 0);
        due.is("dial(4, 4, 0, 0, 5)", g.dial(4, 4, 0, 0, 5), 0);
        due.is("house(5, 0, 0, ends(1, 0), 5)", g.house(5, 0, 0, ends(1, 0), 5), 0);
        due.is("tilt(0, 1)", g.tilt(0, 1), Due.NO);
        due.is("tilt(1, 1)", g.tilt(1, 1), Due.NO);
        due.is("tilt(3, 1)", g.tilt(3, 1), Due.NO);
        due.is("tilt(5, 1)", g.tilt(5, 1), Due.NO);
        due.is("tilt(6, 1)", g.tilt(6, 1), Due.NO);
        due.is("tilt(2, 0)", g.tilt(2, 0), 8192);
        due.is("tilt(2, 16384)", g.tilt(2, 16384), 0);
        due.is("tilt(4, 5)", g.tilt(4, 5), 8192);
        due.is("about(2, 4)", g.about(2, 4), 16384);
        due.is("about(4, 4)", g.about(4, 4), 5);
        due.is("about(4, 3)", g.about(4, 3), 0);
        due.is("tilt(2, -1)", g.tilt(2, -1), Due.BAD);
        due.is("tilt(2, 16385)", g.tilt(2, 16385), Due.BAD);
        due.is("tilt(2, Integer.MIN_VALUE)", g.tilt(2, Integer.MIN_VALUE), Due.BAD);
        due.is("tilt(0, -1)", g.tilt(0, -1), Due.BAD);
        due.is("tilt(-1, 0)", g.tilt(-1, 0), Due.BAD);
        due.is("tilt(40, 0)", g.tilt(40, 0), Due.BAD);
        due.is("about(2, 4)", g.about(2, 4), 16384);
        due.is("count(5)", g.count(5), 9);
    }

    /** Promise 14. */
    private static void hoursLeft(Due due) {
        DialGarden g = new DialGarden();
        due.is("dial(0, 0, 0, 0, 5)", g.dial(0, 0, 0, 0, 5), 0);
        due.is("dial(1, 1, 0, 0, 5)", g.dial(1, 1, 0, 0, 5), 0);
        due.is("dial(2, 2, 0, 0, 5)", g.dial(2, 2, 0, 0, 5), 0);
        due.is("dial(3, 3, 0, 0, 5)", g.dial(3, 3, 0, 0, 5), 0);
        due.is("dial(4, 4, 0, 0, 5)", g.dial(4, 4, 0, 0, 5), 0);
        due.is("house(5, 0, 0, ends(1, 0), 5)", g.house(5, 0, 0, ends(1, 0), 5), 0);
        due.is("left(0, 0, 0)", g.left(0, 0, 0), Due.NO);
        due.is("left(1, 0, 0)", g.left(1, 0, 0), Due.NO);
        due.is("left(2, 0, 0)", g.left(2, 0, 0), Due.NO);
        due.is("left(3, 0, 0)", g.left(3, 0, 0), Due.NO);
        due.is("left(5, 0, 0)", g.left(5, 0, 0), Due.NO);
        due.is("left(6, 0, 0)", g.left(6, 0, 0), Due.NO);
        due.is("left(4, 0, 1)", g.left(4, 0, 1), 1);
        due.is("about(4, 5)", g.about(4, 5), 24);
        due.is("left(4, 0, 0)", g.left(4, 0, 0), 1);
        due.is("left(4, 0, 0)", g.left(4, 0, 0), 0);
        due.is("about(4, 5)", g.about(4, 5), 23);
        due.is("left(4, 23, 0)", g.left(4, 23, 0), 1);
        due.is("left(4, 23, 0)", g.left(4, 23, 0), 0);
        due.is("about(4, 5)", g.about(4, 5), 22);
        due.is("left(4, 0, 1)", g.left(4, 0, 1), 0);
        due.is("left(4, 0, 1)", g.left(4, 0, 1), 1);
        due.is("about(4, 5)", g.about(4, 5), 23);
        due.is("left(4, -1, 0)", g.left(4, -1, 0), Due.BAD);
        due.is("left(4, 24, 0)", g.left(4, 24, 0), Due.BAD);
        due.is("left(4, 32, 0)", g.left(4, 32, 0), Due.BAD);
        due.is("left(4, Integer.MIN_VALUE, 0)", g.left(4, Integer.MIN_VALUE, 0), Due.BAD);
        due.is("left(4, 0, -1)", g.left(4, 0, -1), Due.BAD);
        due.is("left(4, 0, 2)", g.left(4, 0, 2), Due.BAD);
        due.is("left(4, 0, Integer.MAX_VALUE)", g.left(4, 0, Integer.MAX_VALUE), Due.BAD);
        due.is("left(0, 24, 0)", g.left(0, 24, 0), Due.BAD);
        due.is("left(6, 0, 2)", g.left(6, 0, 2), Due.BAD);
        due.is("left(-1, 0, 0)", g.left(-1, 0, 0), Due.BAD);
        due.is("left(40, 0, 0)", g.left(40, 0, 0), Due.BAD);
        due.is("about(4, 5)", g.about(4, 5), 23);
        due.is("count(5)", g.count(5), 13);
    }

    /** Promises 15 and 16. */
    private static void holdings(Due due) {
        DialGarden g = new DialGarden();
        due.is("dial(0, 0, 0, 0, 5)", g.dial(0, 0, 0, 0, 5), 0);
        due.is("dial(1, 1, 0, 0, 5)", g.dial(1, 1, 0, 0, 5), 0);
        due.is("dial(2, 2, 0, 0, 5)", g.dial(2, 2, 0, 0, 5), 0);
        due.is("dial(3, 3, 0, 0, 5)", g.dial(3, 3, 0, 0, 5), 0);
        due.is("dial(4, 4, 0, 0, 5)", g.dial(4, 4, 0, 0, 5), 0);
        due.is("house(39, 0, 0, ends(1, 0), 5)", g.house(39, 0, 0, ends(1, 0), 5), 0);
        due.is("holds(0)", g.holds(0), 2);
        due.is("holds(1)", g.holds(1), 3);
        due.is("holds(2)", g.holds(2), 4);
        due.is("holds(3)", g.holds(3), 5);
        due.is("holds(4)", g.holds(4), 6);
        due.is("holds(5)", g.holds(5), 0);
        due.is("holds(39)", g.holds(39), 1);
        due.is("holds(-1)", g.holds(-1), Due.BAD);
        due.is("holds(40)", g.holds(40), Due.BAD);
        due.is("holds(Integer.MIN_VALUE)", g.holds(Integer.MIN_VALUE), Due.BAD);
        due.is("holds(Integer.MAX_VALUE)", g.holds(Integer.MAX_VALUE), Due.BAD);
        due.is("isOf(0, 0)", g.isOf(0, 0), 1);
        due.is("isOf(0, 1)", g.isOf(0, 1), 0);
        due.is("isOf(0, 2)", g.isOf(0, 2), 0);
        due.is("isOf(0, 3)", g.isOf(0, 3), 0);
        due.is("isOf(0, 4)", g.isOf(0, 4), 0);
        due.is("isOf(1, 0)", g.isOf(1, 0), 1);
        due.is("isOf(1, 1)", g.isOf(1, 1), 1);
        due.is("isOf(1, 2)", g.isOf(1, 2), 0);
        due.is("isOf(1, 3)", g.isOf(1, 3), 0);
        due.is("isOf(1, 4)", g.isOf(1, 4), 0);
        due.is("isOf(2, 0)", g.isOf(2, 0), 1);
        due.is("isOf(2, 1)", g.isOf(2, 1), 1);
        due.is("isOf(2, 2)", g.isOf(2, 2), 1);
        due.is("isOf(2, 3)", g.isOf(2, 3), 0);
        due.is("isOf(2, 4)", g.isOf(2, 4), 0);
        due.is("isOf(3, 0)", g.isOf(3, 0), 1);
        due.is("isOf(3, 1)", g.isOf(3, 1), 0);
        due.is("isOf(3, 2)", g.isOf(3, 2), 0);
        due.is("isOf(3, 3)", g.isOf(3, 3), 1);
        due.is("isOf(3, 4)", g.isOf(3, 4), 0);
        due.is("isOf(4, 0)", g.isOf(4, 0), 1);
        due.is("isOf(4, 1)", g.isOf(4, 1), 1);
        due.is("isOf(4, 2)", g.isOf(4, 2), 1);
        due.is("isOf(4, 3)", g.isOf(4, 3), 0);
        due.is("isOf(4, 4)", g.isOf(4, 4), 1);
        due.is("isOf(39, 0)", g.isOf(39, 0), 0);
        due.is("isOf(39, 1)", g.isOf(39, 1), 0);
        due.is("isOf(5, 0)", g.isOf(5, 0), 0);
        due.is("isOf(0, -1)", g.isOf(0, -1), Due.BAD);
        due.is("isOf(0, 5)", g.isOf(0, 5), Due.BAD);
        due.is("isOf(0, Integer.MIN_VALUE)", g.isOf(0, Integer.MIN_VALUE), Due.BAD);
        due.is("isOf(5, 5)", g.isOf(5, 5), Due.BAD);
        due.is("isOf(-1, 0)", g.isOf(-1, 0), Due.BAD);
        due.is("isOf(40, 0)", g.isOf(40, 0), Due.BAD);
    }

    /** Promise 17. */
    private static void properties(Due due) {
        DialGarden g = new DialGarden();
        due.is("dial(0, 0, 11, -12, 13)", g.dial(0, 0, 11, -12, 13), 0);
        due.is("dial(1, 1, 0, 0, 5)", g.dial(1, 1, 0, 0, 5), 0);
        due.is("dial(2, 2, 0, 0, 5)", g.dial(2, 2, 0, 0, 5), 0);
        due.is("dial(3, 3, 0, 0, 5)", g.dial(3, 3, 0, 0, 5), 0);
        due.is("dial(4, 4, 0, 0, 5)", g.dial(4, 4, 0, 0, 5), 0);
        due.is("house(5, 1, -2, ends(-3, 4), 6)", g.house(5, 1, -2, ends(-3, 4), 6), 0);
        due.is("about(0, 0)", g.about(0, 0), 11);
        due.is("about(0, 1)", g.about(0, 1), -12);
        due.is("about(0, 2)", g.about(0, 2), 13);
        due.is("about(0, 3)", g.about(0, 3), Due.NONE);
        due.is("about(0, 4)", g.about(0, 4), Due.NONE);
        due.is("about(0, 5)", g.about(0, 5), Due.NONE);
        due.is("about(1, 3)", g.about(1, 3), 0);
        due.is("about(1, 4)", g.about(1, 4), Due.NONE);
        due.is("about(1, 5)", g.about(1, 5), Due.NONE);
        due.is("about(2, 3)", g.about(2, 3), 0);
        due.is("about(2, 4)", g.about(2, 4), 8192);
        due.is("about(2, 5)", g.about(2, 5), Due.NONE);
        due.is("about(3, 3)", g.about(3, 3), Due.NONE);
        due.is("about(3, 4)", g.about(3, 4), Due.NONE);
        due.is("about(3, 5)", g.about(3, 5), Due.NONE);
        due.is("about(4, 3)", g.about(4, 3), 0);
        due.is("about(4, 4)", g.about(4, 4), 8192);
        due.is("about(4, 5)", g.about(4, 5), 24);
        due.is("about(5, 0)", g.about(5, 0), 1);
        due.is("about(5, 1)", g.about(5, 1), -2);
        due.is("about(5, 2)", g.about(5, 2), -3);
        due.is("about(5, 3)", g.about(5, 3), 4);
        due.is("about(5, 4)", g.about(5, 4), 6);
        due.is("about(5, 5)", g.about(5, 5), Due.NONE);
        due.is("about(6, 0)", g.about(6, 0), Due.NO);
        due.is("about(6, 5)", g.about(6, 5), Due.NO);
        due.is("about(6, 6)", g.about(6, 6), Due.BAD);
        due.is("about(0, -1)", g.about(0, -1), Due.BAD);
        due.is("about(0, 6)", g.about(0, 6), Due.BAD);
        due.is("about(5, 6)", g.about(5, 6), Due.BAD);
        due.is("about(5, -1)", g.about(5, -1), Due.BAD);
        due.is("about(0, Integer.MIN_VALUE)", g.about(0, Integer.MIN_VALUE), Due.BAD);
        due.is("about(0, Integer.MAX_VALUE)", g.about(0, Integer.MAX_VALUE), Due.BAD);
        due.is("about(-1, 0)", g.about(-1, 0), Due.BAD);
        due.is("about(40, 0)", g.about(40, 0), Due.BAD);
    }

    /** Promise 18. */
    private static void undoes(Due due) {
        DialGarden g = new DialGarden();
        due.is("undo()", g.undo(), Due.NO);
        due.is("dial(3, 4, 1, 2, 3)", g.dial(3, 4, 1, 2, 3), 0);
        due.is("face(3, 100)", g.face(3, 100), 0);
        due.is("tilt(3, 200)", g.tilt(3, 200), 8192);
        due.is("left(3, 5, 0)", g.left(3, 5, 0), 1);
        due.is("move(3, 8, 9)", g.move(3, 8, 9), 0);
        due.is("dial(3, 0, 0, 0, 7)", g.dial(3, 0, 0, 0, 7), 0);
        due.is("drop(3)", g.drop(3), 0);
        due.is("house(3, 1, 1, ends(2, 2), 4)", g.house(3, 1, 1, ends(2, 2), 4), 0);
        due.is("dial(4, 1, 0, 0, 5)", g.dial(4, 1, 0, 0, 5), 0);
        // What is refused is no change, nor is what is no change of the garden.
        due.is("drop(9)", g.drop(9), Due.NO);
        due.is("face(4, 65536)", g.face(4, 65536), Due.BAD);
        due.is("latitude(5)", g.latitude(5), 8192);
        due.is("corrections(9)", g.corrections(9), 9);
        due.is("sight(0, 0, 0, 0)", g.sight(0, 0, 0, 0), 1);
        due.is("count(5)", g.count(5), 9);
        due.is("undo()", g.undo(), 4);
        due.is("holds(4)", g.holds(4), 0);
        due.is("undo()", g.undo(), 3);
        due.is("holds(3)", g.holds(3), 0);
        due.is("undo()", g.undo(), 3);
        due.is("holds(3)", g.holds(3), 2);
        due.is("about(3, 2)", g.about(3, 2), 7);
        due.is("undo()", g.undo(), 3);
        due.is("holds(3)", g.holds(3), 6);
        due.is("about(3, 0)", g.about(3, 0), 8);
        due.is("about(3, 1)", g.about(3, 1), 9);
        due.is("about(3, 5)", g.about(3, 5), 23);
        due.is("undo()", g.undo(), 3);
        due.is("about(3, 0)", g.about(3, 0), 1);
        due.is("about(3, 1)", g.about(3, 1), 2);
        due.is("about(3, 5)", g.about(3, 5), 23);
        due.is("about(3, 4)", g.about(3, 4), 200);
        due.is("count(5)", g.count(5), 4);
        // A change after an undo is taken back ahead of those before it.
        due.is("left(3, 6, 0)", g.left(3, 6, 0), 1);
        due.is("about(3, 5)", g.about(3, 5), 22);
        due.is("undo()", g.undo(), 3);
        due.is("about(3, 5)", g.about(3, 5), 23);
        due.is("undo()", g.undo(), 3);
        due.is("about(3, 5)", g.about(3, 5), 24);
        due.is("about(3, 4)", g.about(3, 4), 200);
        due.is("undo()", g.undo(), 3);
        due.is("about(3, 4)", g.about(3, 4), 8192);
        due.is("about(3, 3)", g.about(3, 3), 100);
        due.is("undo()", g.undo(), 3);
        due.is("about(3, 3)", g.about(3, 3), 0);
        due.is("undo()", g.undo(), 3);
        due.is("holds(3)", g.holds(3), 0);
        due.is("undo()", g.undo(), Due.NO);
        due.is("count(5)", g.count(5), 0);
        due.is("latitude(5)", g.latitude(5), 5);
        due.is("count(3)", g.count(3), 9);
        due.is("count(4)", g.count(4), 1);
    }

    /** Promise 18: the latest 16 changes are kept, and no older one. */
    private static void latestSixteen(Due due) {
        DialGarden g = new DialGarden();
        due.is("dial(0, 1, 0, 0, 5)", g.dial(0, 1, 0, 0, 5), 0);
        due.is("face(0, 1)", g.face(0, 1), 0);
        due.is("face(0, 2)", g.face(0, 2), 1);
        due.is("face(0, 3)", g.face(0, 3), 2);
        due.is("face(0, 4)", g.face(0, 4), 3);
        due.is("face(0, 5)", g.face(0, 5), 4);
        due.is("face(0, 6)", g.face(0, 6), 5);
        due.is("face(0, 7)", g.face(0, 7), 6);
        due.is("face(0, 8)", g.face(0, 8), 7);
        due.is("face(0, 9)", g.face(0, 9), 8);
        due.is("face(0, 10)", g.face(0, 10), 9);
        due.is("face(0, 11)", g.face(0, 11), 10);
        due.is("face(0, 12)", g.face(0, 12), 11);
        due.is("face(0, 13)", g.face(0, 13), 12);
        due.is("face(0, 14)", g.face(0, 14), 13);
        due.is("face(0, 15)", g.face(0, 15), 14);
        due.is("face(0, 16)", g.face(0, 16), 15);
        due.is("count(5)", g.count(5), 16);
        due.is("undo()", g.undo(), 0);
        due.is("about(0, 3)", g.about(0, 3), 15);
        due.is("undo()", g.undo(), 0);
        due.is("about(0, 3)", g.about(0, 3), 14);
        due.is("undo()", g.undo(), 0);
        due.is("about(0, 3)", g.about(0, 3), 13);
        due.is("undo()", g.undo(), 0);
        due.is("about(0, 3)", g.about(0, 3), 12);
        due.is("undo()", g.undo(), 0);
        due.is("about(0, 3)", g.about(0, 3), 11);
        due.is("undo()", g.undo(), 0);
        due.is("about(0, 3)", g.about(0, 3), 10);
        due.is("undo()", g.undo(), 0);
        due.is("about(0, 3)", g.about(0, 3), 9);
        due.is("undo()", g.undo(), 0);
        due.is("about(0, 3)", g.about(0, 3), 8);
        due.is("undo()", g.undo(), 0);
        due.is("about(0, 3)", g.about(0, 3), 7);
        due.is("undo()", g.undo(), 0);
        due.is("about(0, 3)", g.about(0, 3), 6);
        due.is("undo()", g.undo(), 0);
        due.is("about(0, 3)", g.about(0, 3), 5);
        due.is("undo()", g.undo(), 0);
        due.is("about(0, 3)", g.about(0, 3), 4);
        due.is("undo()", g.undo(), 0);
        due.is("about(0, 3)", g.about(0, 3), 3);
        due.is("undo()", g.undo(), 0);
        due.is("about(0, 3)", g.about(0, 3), 2);
        due.is("undo()", g.undo(), 0);
        due.is("about(0, 3)", g.about(0, 3), 1);
        due.is("undo()", g.undo(), 0);
        due.is("about(0, 3)", g.about(0, 3), 0);
        due.is("count(5)", g.count(5), 0);
        due.is("undo()", g.undo(), Due.NO);
        due.is("about(0, 3)", g.about(0, 3), 0);
        due.is("holds(0)", g.holds(0), 3);
    }

    /** Promise 18: changes and undos by turns. */
    private static void keptAgain(Due due) {
        DialGarden g = new DialGarden();
        due.is("dial(1, 2, 0, 0, 5)", g.dial(1, 2, 0, 0, 5), 0);
        due.is("tilt(1, 1)", g.tilt(1, 1), 8192);
        due.is("tilt(1, 2)", g.tilt(1, 2), 1);
        due.is("tilt(1, 3)", g.tilt(1, 3), 2);
        due.is("tilt(1, 4)", g.tilt(1, 4), 3);
        due.is("tilt(1, 5)", g.tilt(1, 5), 4);
        due.is("undo()", g.undo(), 1);
        due.is("about(1, 4)", g.about(1, 4), 4);
        due.is("undo()", g.undo(), 1);
        due.is("about(1, 4)", g.about(1, 4), 3);
        due.is("tilt(1, 101)", g.tilt(1, 101), 3);
        due.is("tilt(1, 102)", g.tilt(1, 102), 101);
        due.is("tilt(1, 103)", g.tilt(1, 103), 102);
        due.is("tilt(1, 104)", g.tilt(1, 104), 103);
        due.is("tilt(1, 105)", g.tilt(1, 105), 104);
        due.is("undo()", g.undo(), 1);
        due.is("about(1, 4)", g.about(1, 4), 104);
        due.is("undo()", g.undo(), 1);
        due.is("about(1, 4)", g.about(1, 4), 103);
        due.is("tilt(1, 201)", g.tilt(1, 201), 103);
        due.is("tilt(1, 202)", g.tilt(1, 202), 201);
        due.is("tilt(1, 203)", g.tilt(1, 203), 202);
        due.is("tilt(1, 204)", g.tilt(1, 204), 203);
        due.is("tilt(1, 205)", g.tilt(1, 205), 204);
        due.is("undo()", g.undo(), 1);
        due.is("about(1, 4)", g.about(1, 4), 204);
        due.is("undo()", g.undo(), 1);
        due.is("about(1, 4)", g.about(1, 4), 203);
        due.is("tilt(1, 301)", g.tilt(1, 301), 203);
        due.is("tilt(1, 302)", g.tilt(1, 302), 301);
        due.is("tilt(1, 303)", g.tilt(1, 303), 302);
        due.is("tilt(1, 304)", g.tilt(1, 304), 303);
        due.is("tilt(1, 305)", g.tilt(1, 305), 304);
        due.is("undo()", g.undo(), 1);
        due.is("about(1, 4)", g.about(1, 4), 304);
        due.is("undo()", g.undo(), 1);
        due.is("about(1, 4)", g.about(1, 4), 303);
        due.is("tilt(1, 401)", g.tilt(1, 401), 303);
        due.is("tilt(1, 402)", g.tilt(1, 402), 401);
        due.is("tilt(1, 403)", g.tilt(1, 403), 402);
        due.is("tilt(1, 404)", g.tilt(1, 404), 403);
        due.is("tilt(1, 405)", g.tilt(1, 405), 404);
        due.is("undo()", g.undo(), 1);
        due.is("about(1, 4)", g.about(1, 4), 404);
        due.is("undo()", g.undo(), 1);
        due.is("about(1, 4)", g.about(1, 4), 403);
        due.is("count(5)", g.count(5), 14);
        due.is("dial(2, 0, 1, 1, 1)", g.dial(2, 0, 1, 1, 1), 0);
        due.is("count(5)", g.count(5), 15);
        due.is("undo()", g.undo(), 2);
        due.is("count(5)", g.count(5), 14);
        due.is("holds(2)", g.holds(2), 0);
    }
}
