/** Counts and prints the answers that are not the due ones. */
final class Due {
    private final String test;
    private int calls;
    private int wrong;

    Due(String test) {
        this.test = test;
    }

    void is(String call, long got, long want) {
        calls++;
        if (got != want) {
            wrong++;
            System.out.println(test + ": " + call + " answered " + got + ", due is " + want);
        }
    }

    /** told(0), told(1) and on, in one go. */
    void told(String when, ShiftGrids x, long... want) {
        for (int what = 0; what < want.length; what++) {
            is(when + ": told(" + what + ")", x.told(what), want[what]);
        }
    }

    /** A place: the grid it belongs to, and where it comes to, without PLUS. */
    void place(ShiftGrids s, int x, int y, int which, int movedX, int movedY) {
        String at = "(" + x + ", " + y + ")";
        is("which" + at, s.which(x, y), which);
        is("moved" + at + " x", s.moved(x, y, 0), movedX + 1000000);
        is("moved" + at + " y", s.moved(x, y, 1), movedY + 1000000);
    }

    /** A new place: kind, rounds and the last guess, without PLUS. */
    void back(ShiftGrids s, int x, int y, int kind, int rounds, int lastX, int lastY) {
        String at = "back(" + x + ", " + y + ")";
        is(at + " kind", s.back(x, y, 0), kind);
        is(at + " rounds", s.back(x, y, 1), rounds);
        is(at + " x", s.back(x, y, 2), lastX + 1000000);
        is(at + " y", s.back(x, y, 3), lastY + 1000000);
    }

    void end() {
        System.out.println(test + ": " + calls + " answers, " + wrong + " not as due");
        if (wrong != 0) {
            System.exit(1);
        }
    }
}
