/** Counts the answers that are not the ones that are due, and says which they are. */
final class Due {
    static final long BAD = -2000000001L, NO = -2000000002L, FULL = -2000000003L, NONE = -2000000005L;

    private int asked = 0, wrong = 0;

    void is(String call, long got, long want) {
        asked++;
        if (got == want) return;
        wrong++;
        if (wrong <= 50) System.out.println(call + " answered " + got + ", due is " + want);
    }

    void holds(String what, boolean so) {
        is(what, so ? 1 : 0, 1);
    }

    void end(String test) {
        System.out.println(test + ": " + asked + " answers, " + wrong + " not as due");
        if (wrong != 0 || asked == 0) System.exit(1);
    }
}
