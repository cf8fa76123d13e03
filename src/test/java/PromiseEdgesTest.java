/**
 * Promises 1 to 21: what each call refuses, its least and greatest arguments and answers, on a new object, on the least and
 * on a full one; of refused calls and of looks also that nothing has changed.
 */
public final class PromiseEdgesTest {
    private static final int NONE = Run.NONE, PLUS = Run.PLUS;
    private static final int UNKNOWN = Run.UNKNOWN, OUTSIDE = Run.OUTSIDE, NOT = Run.NOT, FULL = Run.FULL;
    private static final String[][] SCENES = {Scenes.NEW, Scenes.LEAST, Scenes.FULL};
    private static final Due due = new Due("PromiseEdgesTest");

    public static void main(String[] args) {
        promise1NoGrids();
        promise2What();
        promise2LeastAndGreatest();
        promise2FirstThatHasIt();
        promise3GridAndWhat();
        promise3LeastAndGreatest();
        promise4NodeAndWhat();
        promise4LeastAndGreatest();
        promise4NoParent();
        promise5CellAndWhat();
        promise6Place();
        promise7PlaceAndWhat();
        promise8NewPlaceAndWhat();
        promise9Unknown();
        promise9Outside();
        promise9Not();
        promise9Full();
        promise10Node();
        promise11Fill();
        promise12Fit();
        promise13Drop();
        promise14Rule();
        promise15Drift();
        promise16Undo();
        promise17Write();
        promise18Tear();
        promise19Seed();
        promise20Keep();
        promise21GoBack();
        looksChangeNothing();
        due.end();
    }

    private static Run run(String... begun) {
        return new Run(due, begun);
    }

    /** Six grids of 5 by 5, side by side. */
    private static Run sixLargest() {
        Run x = run();
        for (int g = 0; g < 6; g++) {
            x.does("grid(NONE, " + 10 * g + ", 0, 1, 5, 5)");
        }
        return x;
    }

    /** Six grids, each the parent of the next one, the first three on the same ground. */
    private static Run sixDeep() {
        return run("grid(NONE, 0, 0, 64, 2, 2)", "grid(0, 0, 0, 32, 3, 3)", "grid(1, 0, 0, 16, 5, 5)", "grid(2, 0, 0, 8, 5, 5)", "grid(3, 0, 0, 4, 5, 5)", "grid(4, 0, 0, 2, 5, 5)");
    }

    /** Each text with these words in place of the sign #. */
    private static void each(Run x, long refusal, String text, String... words) {
        for (String word : words) {
            x.refuses(refusal, text.replace("#", word));
        }
    }

    /** "ShiftGrids(): No GRIDS." */
    private static void promise1NoGrids() {
        Run x = run().told(0, 0, 0, 0, 0, 0, 0, NONE, 0, NONE, 0, 0).place(0, 0, NONE, 0, 0).back(0, 0, 0, 1, 0, 0);
        x.refuses(UNKNOWN, "gridAt(0, 0)", "nodeAt(0, 0, 0, 0)", "cellAt(0, 0, 0, 0)", "grid(0, 0, 0, 1, 2, 2)", "node(0, 0, 0, 0, 0)", "fill(0, 0, 0)", "fit(0)", "drop(0)");
        x.refuses(NOT, "drift(1)", "undo(1)", "goBack(0)", "goBack(1)").is("tear()", 0).is("seed(0)", 0).is("rule(0)", 0).is("grid(NONE, 0, 0, 1, 2, 2)", 0);
    }

    /** "told(int what): 0 .. 11. OUTSIDE." */
    private static void promise2What() {
        for (String[] scene : SCENES) {
            each(run(scene), OUTSIDE, "told(#)", "-1", "12", "13", "-2", "MIN", "MAX", "1073741824", "-1000000001");
        }
        run(Scenes.LEAST).told(1, 0, 0, 0, 0, 0, 0, NONE, 1, NONE, 1, 0);
        run(Scenes.FULL).is("told(0)", 6).is("told(1)", 2).is("told(8)", 20).is("told(9)", NONE).is("told(10)", 16).is("told(11)", 2147483647);
    }

    /** Each number at its least and at its greatest. */
    private static void promise2LeastAndGreatest() {
        Run x = sixLargest().told(6, 0, 0, 0, 0, 0, 0, NONE, 0, NONE, 6, 0);
        for (int g = 0; g < 6; g++) {
            x.does("fill(" + g + ", 999, 999)");
        }
        x.told(6, 0, 150, 0, 0, 0, 0, NONE, 0, NONE, 12, 0);
        // Of a node dx or dy alone is enough to be not 0, 0.
        x.does("node(5, 4, 4, 0, 0)").is("told(2)", 149).does("node(5, 4, 4, 1, 0)").is("told(2)", 150).does("node(5, 4, 4, 0, -1)").is("told(2)", 150);
        // Every other node far away: all 16 cells of a grid are steep, and folded.
        Run y = run("grid(NONE, 0, 0, 1, 5, 5)");
        for (int i = 0; i < 25; i += 2) {
            y.does("node(0, " + i % 5 + ", " + i / 5 + ", 999, -999)");
        }
        y.is("told(2)", 13).is("told(3)", 16).is("told(4)", 16).is("gridAt(0, 10)", 16);
        // Gaps: four and more a grid, up to 8 and four times 16; the greatest is from -999 to 999.
        Run z = sixDeep().is("told(5)", 0).does("fill(0, 999, 0)", "fill(1, -999, 0)", "fill(2, 999, 0)", "fill(3, -999, 0)", "fill(4, 999, 0)", "fill(5, -999, 0)");
        z.is("told(5)", 8 + 4 * 16).is("told(6)", 1998).is("told(7)", 1);
    }

    /** "6 the greatest GAP (0: none), 7 the GRID that has it first (NONE)" */
    private static void promise2FirstThatHasIt() {
        Run x = run("grid(NONE, 0, 0, 10, 3, 3)", "grid(0, 0, 0, 5, 2, 2)", "grid(0, 5, 0, 5, 2, 2)", "grid(0, 10, 0, 5, 2, 2)").is("told(6)", 0).is("told(7)", NONE);
        x.does("node(3, 0, 0, 1, 0)").is("told(6)", 1).is("told(7)", 3).does("node(2, 0, 0, 0, 1)").is("told(6)", 1).is("told(7)", 2).does("node(1, 0, 0, -1, 0)").is("told(7)", 1);
        x.does("node(2, 1, 1, 2, 0)").is("told(6)", 2).is("told(7)", 2).does("node(3, 1, 1, 0, -2)").is("told(6)", 2).is("told(7)", 2).does("node(3, 1, 1, 0, -3)").is("told(7)", 3);
    }

    /** "gridAt(int g, int what): 0 .. 10. UNKNOWN, OUTSIDE." */
    private static void promise3GridAndWhat() {
        each(run(Scenes.NEW), UNKNOWN, "gridAt(#)", "0, 0", "-1, 0", "0, 11", "MIN, 0", "MAX, 0", "0, MIN");
        each(run(Scenes.LEAST), UNKNOWN, "gridAt(#)", "1, 0", "-1, 0", "1, 11", "-1, -1", "MIN, MIN", "MAX, MAX");
        each(run(Scenes.LEAST), OUTSIDE, "gridAt(0, #)", "-1", "11", "MIN", "MAX");
        each(run(Scenes.FULL), UNKNOWN, "gridAt(#)", "6, 0", "-1, 0", "6, 11", "MIN, 0", "MAX, 0", "-2147483643, 0");
        each(run(Scenes.FULL), OUTSIDE, "gridAt(#)", "5, -1", "5, 11", "0, MIN", "0, MAX");
    }

    private static void promise3LeastAndGreatest() {
        gridIs(run("grid(NONE, 0, 0, 1, 2, 2)"), 0, NONE, 0, 0, 1, 2, 2, 0, 0, 0, 0, 0);
        gridIs(run("grid(NONE, 744, 744, 64, 5, 5)"), 0, NONE, 744, 744, 64, 5, 5, 0, 0, 0, 0, 0);
        gridIs(run("grid(NONE, 999, 0, 1, 2, 2)"), 0, NONE, 999, 0, 1, 2, 2, 0, 0, 0, 0, 0);
        gridIs(run("grid(NONE, 0, 999, 1, 2, 2)"), 0, NONE, 0, 999, 1, 2, 2, 0, 0, 0, 0, 0);
        // Five that have the same parent; five parents, one above the other.
        Run wide = run("grid(NONE, 0, 0, 10, 5, 5)");
        for (int g = 1; g <= 5; g++) {
            wide.is("gridAt(0, 6)", g - 1).does("grid(0, " + 5 * g + ", 0, 5, 2, 2)").is("gridAt(" + g + ", 7)", 1).is("gridAt(" + g + ", 6)", 0).is("gridAt(" + g + ", 0)", 0);
        }
        wide.is("gridAt(0, 6)", 5).is("gridAt(0, 7)", 0);
        Run deep = sixDeep();
        for (int g = 0; g < 6; g++) {
            deep.is("gridAt(" + g + ", 0)", g - 1).is("gridAt(" + g + ", 6)", g < 5 ? 1 : 0).is("gridAt(" + g + ", 7)", g);
        }
        gridIs(deep.does("fill(4, 999, -999)", "fill(5, -999, 999)"), 5, 4, 0, 0, 2, 5, 5, 0, 5, 16, 1998, 0);
    }

    private static void gridIs(Run x, int g, int... want) {
        for (int what = 0; what < want.length; what++) {
            x.is("gridAt(" + g + ", " + what + ")", want[what]);
        }
    }

    /** "nodeAt(int g, int c, int r, int what): 0 .. 3. UNKNOWN, OUTSIDE." */
    private static void promise4NodeAndWhat() {
        each(run(Scenes.NEW), UNKNOWN, "nodeAt(#)", "0, 0, 0, 0", "-1, 0, 0, 0", "0, 0, 0, 4");
        Run least = run(Scenes.LEAST);
        each(least, UNKNOWN, "nodeAt(#)", "1, 0, 0, 0", "-1, 0, 0, 0", "0, 2, 0, 0", "0, 0, 2, 0", "0, -1, 0, 0", "0, 0, -1, 0", "0, -1, 1, 0", "0, 2, -1, 3", "0, 2, 0, -1");
        each(least, UNKNOWN, "nodeAt(#)", "MIN, 0, 0, 0", "MAX, 0, 0, 0", "0, MIN, 0, 0", "0, MAX, 0, 0", "0, 0, MIN, 0", "0, 0, MAX, 0", "0, 1073741824, 0, 0", "0, 0, 1073741824, 0");
        each(least, OUTSIDE, "nodeAt(0, 1, 1, #)", "-1", "4", "MIN", "MAX");
        Run full = run(Scenes.FULL);
        each(full, UNKNOWN, "nodeAt(#)", "6, 0, 0, 0", "-1, 0, 0, 0", "0, 5, 0, 0", "0, 0, 5, 0", "1, 3, 0, 0", "1, 0, 3, 0", "5, 2, 0, 0", "5, 0, 2, 0", "0, -1, 4, 0", "0, 4, -1, 0");
        // Numbers whose products come round to one that there is.
        each(full, UNKNOWN, "nodeAt(#)", "0, MIN, MIN, 0", "0, 0, -858993459, 0", "0, 5, -1, 0", "0, -5, 1, 0", "0, -2147483643, 0, 0", "0, 0, 858993460, 0");
        each(full, OUTSIDE, "nodeAt(0, 4, 4, #)", "-1", "4", "MIN", "MAX");
    }

    private static void promise4LeastAndGreatest() {
        Run x = run("grid(NONE, 0, 0, 2, 5, 5)", "grid(0, 0, 0, 1, 5, 5)", "fill(0, 999, -999)", "node(1, 0, 0, -999, 999)", "node(1, 4, 4, 999, -999)");
        for (int rule = 0; rule < 3; rule++) {
            x.does("rule(" + rule + ")").is("nodeAt(1, 0, 0, 0)", PLUS - 999).is("nodeAt(1, 0, 0, 1)", PLUS + 999).is("nodeAt(1, 4, 4, 0)", PLUS + 999).is("nodeAt(1, 4, 4, 1)", PLUS - 999);
            x.is("nodeAt(1, 0, 0, 2)", PLUS + 999).is("nodeAt(1, 0, 0, 3)", PLUS - 999).is("nodeAt(1, 4, 4, 2)", PLUS + 999).is("nodeAt(1, 2, 2, 3)", PLUS - 999);
        }
        // On the parent's last nodes, and on a node inside, which is no part of the border.
        Run last = run("grid(NONE, 0, 0, 2, 3, 3)", "grid(0, 0, 0, 1, 5, 5)", "node(0, 2, 2, 8, -8)", "node(0, 1, 1, -4, 4)");
        last.is("nodeAt(1, 4, 4, 2)", PLUS + 8).is("nodeAt(1, 4, 4, 3)", PLUS - 8).is("nodeAt(1, 4, 3, 2)", PLUS + 4).is("nodeAt(1, 3, 4, 3)", PLUS - 4);
        last.is("nodeAt(1, 2, 2, 2)", PLUS - 4).is("nodeAt(1, 1, 1, 2)", PLUS - 1).is("nodeAt(1, 3, 3, 2)", PLUS + 1).is("nodeAt(1, 3, 3, 3)", PLUS - 1).is("nodeAt(1, 0, 0, 2)", PLUS);
    }

    /** "(NONE: no PARENT)" */
    private static void promise4NoParent() {
        Run x = run("grid(NONE, 0, 0, 2, 3, 3)", "grid(0, 0, 0, 1, 2, 2)", "fill(0, 7, 7)");
        x.is("nodeAt(0, 0, 0, 2)", NONE).is("nodeAt(0, 2, 2, 3)", NONE).is("nodeAt(1, 0, 0, 2)", PLUS + 7).is("nodeAt(1, 1, 1, 3)", PLUS + 7);
        // What has no grid there is refused, though there is no parent.
        x.refuses(UNKNOWN, "nodeAt(0, 3, 0, 2)", "nodeAt(1, 2, 0, 2)").refuses(OUTSIDE, "nodeAt(0, 0, 0, 4)");
    }

    /** "cellAt(int g, int c, int r, int what): 0 .. 3. UNKNOWN, OUTSIDE." */
    private static void promise5CellAndWhat() {
        each(run(Scenes.NEW), UNKNOWN, "cellAt(#)", "0, 0, 0, 0", "-1, 0, 0, 0", "0, 0, 0, 4");
        Run least = run(Scenes.LEAST).is("cellAt(0, 0, 0, 0)", 0).is("cellAt(0, 0, 0, 1)", 1).is("cellAt(0, 0, 0, 2)", 0).is("cellAt(0, 0, 0, 3)", 8192);
        each(least, UNKNOWN, "cellAt(#)", "1, 0, 0, 0", "-1, 0, 0, 0", "0, 1, 0, 0", "0, 0, 1, 0", "0, 1, 1, 0", "0, -1, 0, 0", "0, 0, -1, 0", "0, 1, 0, 4", "0, 0, 1, -1");
        each(least, UNKNOWN, "cellAt(#)", "MIN, 0, 0, 0", "MAX, 0, 0, 0", "0, MIN, 0, 0", "0, MAX, 0, 0", "0, 0, MIN, 0", "0, 0, MAX, 0", "0, MIN, MIN, 0");
        each(least, OUTSIDE, "cellAt(0, 0, 0, #)", "-1", "4", "MIN", "MAX");
        Run full = run(Scenes.FULL).is("cellAt(3, 3, 3, 3)", 2 * 4096 * 4096);
        each(full, UNKNOWN, "cellAt(#)", "6, 0, 0, 0", "-1, 0, 0, 0", "0, 4, 0, 0", "0, 0, 4, 0", "1, 2, 0, 0", "1, 0, 2, 0", "5, 1, 0, 0", "5, 0, 1, 0");
        each(full, OUTSIDE, "cellAt(#)", "0, 3, 3, -1", "0, 3, 3, 4", "5, 0, 0, 4", "0, 0, 0, MIN", "0, 0, 0, MAX");
    }

    /** "which(int x, int y): ... NONE: it is FREE. OUTSIDE." */
    private static void promise6Place() {
        for (String[] scene : SCENES) {
            Run x = run(scene);
            each(x, OUTSIDE, "which(#)", "-1, 0", "0, -1", "64001, 0", "0, 64001", "-1, -1", "64001, 64001", "MIN, 0", "0, MIN", "MAX, 0", "0, MAX");
            x.is("which(64000, 0)", NONE).is("which(0, 64000)", NONE).is("which(0, 0)", scene.length == 0 ? NONE : 0).is("which(64000, 64000)", scene == Scenes.FULL ? 3 : NONE);
        }
    }

    /** "moved(int x, int y, int what): ... 0 x and PLUS, 1 y and PLUS. OUTSIDE." */
    private static void promise7PlaceAndWhat() {
        for (String[] scene : SCENES) {
            Run x = run(scene);
            each(x, OUTSIDE, "moved(#)", "-1, 0, 0", "0, -1, 0", "64001, 0, 1", "0, 64001, 1", "0, 0, -1", "0, 0, 2", "0, 0, MIN", "0, 0, MAX", "MIN, 0, 0", "0, MAX, 1", "-1, 0, 2");
            x.is("moved(64000, 0, 0)", PLUS + 64000).is("moved(64000, 0, 1)", PLUS).is("moved(0, 64000, 0)", PLUS).is("moved(0, 64000, 1)", PLUS + 64000);
        }
        run(Scenes.FULL).is("moved(64000, 64000, 0)", PLUS + 64000 - 999).is("moved(64000, 64000, 1)", PLUS + 64000 + 999);
    }

    /** "back(int x, int y, int what): what = 0 KIND, 1 ROUNDS, 2, 3 x, y of the last guess, and PLUS. OUTSIDE." */
    private static void promise8NewPlaceAndWhat() {
        for (String[] scene : SCENES) {
            Run x = run(scene);
            each(x, OUTSIDE, "back(#)", "-10001, 0, 0", "0, -10001, 1", "80001, 0, 2", "0, 80001, 3", "0, 0, -1", "0, 0, 4", "0, 0, MIN", "0, 0, MAX", "MIN, 0, 0", "0, MAX, 0", "MAX, MIN, 0");
            x.back(-10000, -10000, 2, 0, -10000, -10000).back(80000, 80000, 2, 0, 80000, 80000).back(64000, 0, 0, 1, 64000, 0);
        }
        // A look leaves nothing behind for the next one.
        run("grid(NONE, 0, 0, 1, 2, 2)", "fill(0, 1, 0)").back(5, 5, 0, 2, 4, 5).back(80000, 0, 2, 0, 80000, 0).back(5, 5, 0, 2, 4, 5).back(0, 0, 2, 1, -1, 0).back(70, 5, 0, 1, 70, 5);
    }

    /** "grid(...): UNKNOWN": a parent that there is not; NONE is none. */
    private static void promise9Unknown() {
        each(run(Scenes.NEW), UNKNOWN, "grid(#, 0, 0, 1, 2, 2)", "0", "-2", "1", "6", "MIN", "MAX");
        each(run(Scenes.LEAST), UNKNOWN, "grid(#, 0, 0, 1, 2, 2)", "1", "-2", "6", "MIN", "MAX");
        each(run(Scenes.FULL), UNKNOWN, "grid(#, 500, 500, 1, 2, 2)", "6", "7", "-2", "MIN", "MAX");
        run(Scenes.NEW).is("grid(NONE, 0, 0, 2, 2, 2)", 0).is("grid(0, 0, 0, 1, 2, 2)", 1).is("drop(1)", 1).is("drop(0)", 0).refuses(UNKNOWN, "grid(0, 0, 0, 1, 2, 2)");
    }

    /** "OUTSIDE (its GROUND beyond 1000 units, too)" */
    private static void promise9Outside() {
        String[] outside = {
            "-1, 500, 1, 2, 2", "500, -1, 1, 2, 2", "1001, 500, 1, 2, 2", "500, 1001, 1, 2, 2", "500, 500, 0, 2, 2", "500, 500, 65, 2, 2", "500, 500, 1, 1, 2",
            "500, 500, 1, 6, 2", "500, 500, 1, 2, 1", "500, 500, 1, 2, 6", "1000, 500, 1, 2, 2", "500, 1000, 1, 2, 2", "745, 500, 64, 5, 2", "500, 745, 64, 2, 5",
            "937, 500, 64, 2, 2", "500, 937, 64, 2, 2", "999, 500, 1, 3, 2", "500, 999, 1, 2, 3", "MIN, 500, 1, 2, 2", "500, MIN, 1, 2, 2", "500, 500, MIN, 2, 2",
            "500, 500, 1, MIN, 2", "500, 500, 1, 2, MIN", "MAX, 500, 1, 2, 2", "500, MAX, 1, 2, 2", "500, 500, MAX, 2, 2", "500, 500, 1, MAX, 2", "500, 500, 1, 2, MAX",
            "MAX, MAX, MAX, MAX, MAX", "MIN, MIN, MIN, MIN, MIN", "500, 500, 64, 67108865, 2", "500, 500, MIN, 3, 3", "500, 500, -1, 2, 2", "500, 500, 1073741824, 5, 5",
        };
        for (String[] scene : SCENES) {
            each(run(scene), OUTSIDE, "grid(NONE, #)", outside);
        }
        each(run(Scenes.LEAST), OUTSIDE, "grid(0, #)", outside);
        Run x = run(Scenes.NEW).is("grid(NONE, 0, 0, 1, 2, 2)", 0).is("grid(NONE, 999, 0, 1, 2, 2)", 1).is("grid(NONE, 0, 999, 1, 2, 2)", 2).is("grid(NONE, 744, 744, 64, 5, 5)", 3);
        x.is("grid(NONE, 10, 10, 64, 5, 5)", 4).is("grid(NONE, 936, 100, 64, 2, 5)", 5);
    }

    /** "NOT: its STEP, its GROUND may not be" */
    private static void promise9Not() {
        Run x = run("grid(NONE, 100, 100, 4, 5, 5)", "grid(0, 104, 104, 3, 2, 2)");
        x.refuses(NOT, "grid(0, 110, 110, 4, 2, 2)", "grid(0, 110, 110, 5, 2, 2)", "grid(1, 104, 104, 3, 2, 2)", "grid(0, 99, 110, 1, 2, 2)", "grid(0, 110, 99, 1, 2, 2)");
        x.refuses(NOT, "grid(0, 116, 110, 1, 2, 2)", "grid(0, 110, 116, 1, 2, 2)", "grid(0, 104, 104, 3, 2, 2)", "grid(0, 106, 106, 1, 2, 2)", "grid(0, 103, 103, 2, 2, 2)");
        x.refuses(NOT, "grid(NONE, 115, 115, 1, 2, 2)", "grid(NONE, 99, 99, 2, 2, 2)", "grid(NONE, 100, 100, 64, 2, 2)", "grid(NONE, 90, 90, 30, 2, 2)");
        x.is("grid(0, 107, 107, 3, 2, 2)", 2).is("grid(0, 115, 110, 1, 2, 2)", 3).is("grid(NONE, 116, 116, 1, 2, 2)", 4).is("grid(1, 106, 106, 1, 2, 2)", 5);
    }

    /** "FULL (6)" */
    private static void promise9Full() {
        Run x = run(Scenes.FULL).refuses(FULL, "grid(NONE, 500, 500, 1, 2, 2)", "grid(NONE, 0, 744, 64, 5, 5)", "grid(3, 744, 744, 63, 5, 5)");
        x.is("drop(5)", 5).is("grid(NONE, 500, 500, 1, 2, 2)", 5).refuses(FULL, "grid(NONE, 256, 0, 1, 2, 2)").is("undo(1)", 15).is("grid(NONE, 256, 0, 1, 2, 2)", 5);
        sixDeep().refuses(FULL, "grid(5, 0, 0, 1, 2, 2)", "grid(NONE, 64, 64, 1, 2, 2)").is("drop(5)", 5).is("grid(4, 0, 0, 1, 2, 2)", 5);
        // An image with fewer grids makes room; one with six has none.
        run(Scenes.FULL).does("goBack(0)").is("told(0)", 4).is("grid(NONE, 500, 500, 1, 2, 2)", 4).is("grid(NONE, 501, 501, 1, 2, 2)", 5).refuses(FULL, "grid(NONE, 600, 600, 1, 2, 2)")
            .does("keep(0)", "drop(5)", "goBack(0)").refuses(FULL, "grid(NONE, 600, 600, 1, 2, 2)");
    }

    /** "node(...): OFFSET of a NODE: 1, if it is another one, 0 if not. UNKNOWN, OUTSIDE." */
    private static void promise10Node() {
        each(run(Scenes.NEW), UNKNOWN, "node(#)", "0, 0, 0, 0, 0", "-1, 0, 0, 0, 0", "0, 0, 0, 1000, 0", "MIN, 0, 0, 0, 0", "MAX, 0, 0, 0, 0");
        String[] unknown = {
            "6, 0, 0, 1, 1", "-1, 0, 0, 1, 1", "0, -1, 0, 1, 1", "0, 0, -1, 1, 1", "0, 5, 0, 1, 1", "0, 0, 5, 1, 1", "0, MIN, 0, 1, 1", "0, MAX, 0, 1, 1", "0, 0, MIN, 1, 1",
            "0, 0, MAX, 1, 1", "MIN, 0, 0, 1, 1", "MAX, 0, 0, 1, 1", "0, 1073741824, 0, 1, 1", "0, 0, 1073741824, 1, 1", "0, 5, 0, 1000, 1", "6, 0, 0, 1, -1000", "0, MIN, MIN, 1, 1",
        };
        String[] outside = {"1000, 0", "-1000, 0", "0, 1000", "0, -1000", "MIN, 0", "0, MIN", "MAX, 0", "0, MAX", "1000, 1000"};
        for (String[] scene : new String[][] {Scenes.LEAST, Scenes.FULL}) {
            each(run(scene), UNKNOWN, "node(#)", unknown);
            each(run(scene), OUTSIDE, "node(0, 1, 1, #)", outside);
            Run x = run(scene).does("node(0, 1, 1, 0, 0)").is("node(0, 1, 1, 0, 0)", 0).is("node(0, 1, 1, 1, 0)", 1).is("node(0, 1, 1, 1, 0)", 0).is("node(0, 1, 1, 1, 1)", 1);
            x.is("node(0, 1, 1, 999, 999)", 1).is("node(0, 1, 1, -999, 999)", 1).is("node(0, 1, 1, -999, -999)", 1).is("node(0, 1, 1, -999, -999)", 0).is("node(0, 1, 1, -998, -999)", 1);
        }
        run(Scenes.LEAST).refuses(UNKNOWN, "node(0, 2, 0, 0, 0)", "node(0, 0, 2, 0, 0)", "node(0, 2, -1, 0, 0)", "node(1, 0, 0, 0, 0)").is("node(0, 1, 1, 5, 5)", 1).is("told(2)", 1);
        run(Scenes.FULL).refuses(UNKNOWN, "node(1, 3, 0, 0, 0)", "node(1, 0, 3, 0, 0)", "node(5, 2, 0, 0, 0)", "node(5, 0, 2, 0, 0)").is("node(5, 1, 1, 998, 5)", 1).is("nodeAt(5, 1, 1, 0)", PLUS + 998);
    }

    /** "fill(...): OFFSETS of all NODES of a GRID: how many are others. UNKNOWN, OUTSIDE." */
    private static void promise11Fill() {
        String[] outside = {"1000, 0", "-1000, 0", "0, 1000", "0, -1000", "MIN, 0", "0, MIN", "MAX, 0", "0, MAX"};
        each(run(Scenes.NEW), UNKNOWN, "fill(#)", "0, 0, 0", "-1, 0, 0", "0, 1000, 0", "MIN, 0, 0", "MAX, 0, 0");
        each(run(Scenes.LEAST), UNKNOWN, "fill(#)", "1, 0, 0", "-1, 0, 0", "1, 1000, 0", "MIN, 0, 0", "MAX, 0, 0");
        each(run(Scenes.FULL), UNKNOWN, "fill(#)", "6, 0, 0", "-1, 0, 0", "6, 0, 1000", "MIN, 0, 0", "MAX, 0, 0");
        each(run(Scenes.LEAST), OUTSIDE, "fill(0, #)", outside);
        each(run(Scenes.FULL), OUTSIDE, "fill(5, #)", outside);
        run(Scenes.LEAST).is("fill(0, 0, 0)", 0).is("fill(0, 0, 1)", 4).is("fill(0, 1, 1)", 4).is("fill(0, 1, 1)", 0).does("node(0, 1, 1, 0, 1)").is("fill(0, 1, 1)", 1);
        run("grid(NONE, 0, 0, 1, 5, 5)").is("fill(0, 999, -999)", 25).is("fill(0, 999, -999)", 0).is("fill(0, -999, 999)", 25).does("node(0, 0, 0, 0, 0)", "node(0, 4, 4, 0, 0)")
            .is("fill(0, -999, 999)", 2).is("fill(0, -999, 998)", 25);
    }

    /** "fit(int g): ... GAPS that there were. UNKNOWN, NOT: it has no PARENT." */
    private static void promise12Fit() {
        each(run(Scenes.NEW), UNKNOWN, "fit(#)", "0", "-1", "MIN", "MAX");
        each(run(Scenes.LEAST), UNKNOWN, "fit(#)", "1", "-1", "MIN", "MAX");
        each(run(Scenes.FULL), UNKNOWN, "fit(#)", "6", "-1", "MIN", "MAX");
        run(Scenes.LEAST).refuses(NOT, "fit(0)");
        run(Scenes.FULL).refuses(NOT, "fit(0)", "fit(3)", "fit(5)");
        // None, one, and all sixteen; nine nodes inside stay; the parent stays; a finer one on it stays (its first row and column
        // and two more nodes, half a step from the border, are gaps then).
        Run x = run("grid(NONE, 0, 0, 8, 2, 2)", "grid(0, 0, 0, 2, 5, 5)", "grid(1, 0, 0, 1, 5, 5)").is("fit(1)", 0).does("node(1, 4, 4, 0, 1)").is("fit(1)", 1).is("nodeAt(1, 4, 4, 1)", PLUS);
        x.does("fill(0, 999, -999)").is("fit(1)", 16).is("told(2)", 4 + 16).is("nodeAt(1, 3, 3, 0)", PLUS).is("nodeAt(1, 4, 3, 0)", PLUS + 999).is("gridAt(2, 8)", 9 + 2).is("nodeAt(2, 0, 0, 0)", PLUS);
        x.is("fit(1)", 0).is("told(10)", 9).is("undo(1)", 8).is("told(2)", 20).is("undo(1)", 7).is("told(2)", 4);
        // A child that may have what the parent has at its greatest, by each rule.
        for (int rule = 0; rule < 3; rule++) {
            run("grid(NONE, 0, 0, 64, 2, 2)", "grid(0, 0, 0, 16, 5, 5)", "rule(" + rule + ")", "fill(0, -999, 999)").is("fit(1)", 16).is("told(5)", 0).is("nodeAt(1, 2, 4, 0)", PLUS - 999);
        }
    }

    /** "drop(int g): A GRID goes: how many are left. UNKNOWN, NOT: it is a PARENT." */
    private static void promise13Drop() {
        each(run(Scenes.NEW), UNKNOWN, "drop(#)", "0", "-1", "MIN", "MAX");
        each(run(Scenes.LEAST), UNKNOWN, "drop(#)", "1", "-1", "MIN", "MAX");
        each(run(Scenes.FULL), UNKNOWN, "drop(#)", "6", "-1", "MIN", "MAX");
        run(Scenes.FULL).refuses(NOT, "drop(0)", "drop(1)").is("drop(5)", 5).refuses(UNKNOWN, "drop(5)").is("drop(2)", 4).is("drop(1)", 3).refuses(NOT, "drop(0)").is("drop(2)", 2).is("drop(0)", 1)
            .is("drop(0)", 0).refuses(UNKNOWN, "drop(0)").is("told(10)", 16);
        run(Scenes.LEAST).is("drop(0)", 0).refuses(UNKNOWN, "drop(0)").is("told(0)", 0).is("undo(1)", 1).is("told(0)", 1);
        Run deep = sixDeep();
        for (int g = 0; g < 5; g++) {
            deep.refuses(NOT, "drop(" + g + ")");
        }
        for (int g = 5; g >= 0; g--) {
            deep.is("drop(" + g + ")", g);
        }
    }

    /** "rule(int v): RULE: what it was. OUTSIDE (0 .. 2)." */
    private static void promise14Rule() {
        for (String[] scene : SCENES) {
            Run x = run(scene);
            int first = scene == Scenes.FULL ? 2 : 0;
            each(x, OUTSIDE, "rule(#)", "-1", "3", "MIN", "MAX");
            x.is("rule(0)", first).is("rule(2)", 0).is("told(1)", 2).is("rule(1)", 2).is("rule(1)", 1).is("rule(0)", 1).is("told(1)", 0);
        }
    }

    /** "drift(int n): n times BY DRAWS (1 .. 12): NODES whose OFFSET is not 0, 0. OUTSIDE, NOT: no GRIDS." */
    private static void promise15Drift() {
        for (String[] scene : SCENES) {
            each(run(scene), OUTSIDE, "drift(#)", "0", "-1", "13", "MIN", "MAX");
        }
        run(Scenes.NEW).refuses(NOT, "drift(1)", "drift(12)", "drift(6)");
        run(Scenes.LEAST).is("drift(1)", 1).is("told(10)", 2).is("told(11)", 229283573).is("told(2)", 1);
        run(Scenes.LEAST).does("drift(12)").is("told(10)", 13).does("drift(3)").is("told(10)", 16).does("drift(1)").is("told(10)", 16);
        // It answers how many nodes of all grids have one, not how many times it was.
        run("grid(NONE, 0, 0, 1, 5, 5)", "grid(NONE, 5, 5, 1, 5, 5)", "fill(0, 999, 999)", "fill(1, 999, 999)").is("drift(1)", 50);
        run("grid(NONE, 0, 0, 1, 2, 2)", "fill(0, 5, 5)", "seed(109459)").is("drift(1)", 3).is("nodeAt(0, 1, 1, 0)", PLUS);
    }

    /** "undo(int n): The n latest (1 .. 16) are undone: how many can be then. OUTSIDE, NOT: not so many." */
    private static void promise16Undo() {
        for (String[] scene : SCENES) {
            each(run(scene), OUTSIDE, "undo(#)", "0", "-1", "17", "MIN", "MAX");
        }
        run(Scenes.NEW).refuses(NOT, "undo(1)", "undo(16)");
        run(Scenes.LEAST).refuses(NOT, "undo(2)", "undo(16)").is("undo(1)", 0).is("told(0)", 0).refuses(NOT, "undo(1)");
        run(Scenes.FULL).is("undo(16)", 0).refuses(NOT, "undo(1)").is("told(0)", 6).is("told(1)", 1).is("told(2)", 25);
        run(Scenes.FULL).is("undo(1)", 15).refuses(NOT, "undo(16)").is("undo(15)", 0).is("told(2)", 25);
        // One at a time comes to the same as all at once.
        Run x = run(Scenes.FULL);
        for (int left = 15; left >= 0; left--) {
            x.is("undo(1)", left);
        }
        x.is("told(0)", 6).is("told(1)", 1).is("told(2)", 25).is("told(8)", 20).is("told(11)", 2147483647);
        // Deeds behind an undo take the place of what was undone.
        run("grid(NONE, 0, 0, 1, 2, 2)", "fill(0, 1, 1)", "fill(0, 2, 2)", "fill(0, 3, 3)").is("undo(2)", 2).does("fill(0, 9, 9)").is("told(10)", 3).is("undo(1)", 2).is("nodeAt(0, 0, 0, 0)", PLUS + 1)
            .is("undo(1)", 1).is("nodeAt(0, 0, 0, 0)", PLUS).is("undo(1)", 0).is("told(0)", 0);
    }

    /** "write(int x, int y, int v): An entry behind THE BOOK (a PLACE, x of it MOVED, any): how many. OUTSIDE, FULL (20)." */
    private static void promise17Write() {
        String[] outside = {"-1, 0, 0", "0, -1, 0", "64001, 0, 0", "0, 64001, 0", "MIN, 0, 0", "0, MIN, 0", "MAX, 0, 0", "0, MAX, 0", "-1, -1, MIN"};
        for (String[] scene : SCENES) {
            each(run(scene), OUTSIDE, "write(#)", outside);
        }
        each(run(Scenes.FULL), FULL, "write(#)", "0, 0, 0", "64000, 64000, 64000", "0, 0, MIN", "0, 0, MAX");
        run(Scenes.NEW).is("write(0, 0, MIN)", 1).is("told(9)", 0).is("write(64000, 64000, MAX)", 2).is("tear()", 2).is("write(0, 64000, 0)", 1).is("write(64000, 0, 64000)", 2).is("told(9)", NONE)
            .is("write(64000, 0, 63999)", 3).is("told(9)", 2).is("told(10)", 0);
        run(Scenes.FULL).is("tear()", 20).is("write(0, 0, 5)", 1).is("told(9)", 0).is("told(8)", 1);
    }

    /** "tear(): No BOOK: how much it had." */
    private static void promise18Tear() {
        run(Scenes.NEW).is("tear()", 0).is("tear()", 0).told(0, 0, 0, 0, 0, 0, 0, NONE, 0, NONE, 0, 0).changesNothing("tear()");
        run(Scenes.LEAST).is("tear()", 1).is("told(8)", 0).is("told(9)", NONE).is("tear()", 0).is("told(10)", 1).is("told(0)", 1);
        run(Scenes.FULL).is("tear()", 20).is("told(8)", 0).is("told(9)", NONE).is("tear()", 0).is("told(10)", 16).is("told(0)", 6).is("write(0, 0, 0)", 1);
    }

    /** "seed(int v): THE SEED becomes v (0 .. 2147483647): what it was. OUTSIDE." */
    private static void promise19Seed() {
        for (String[] scene : SCENES) {
            Run x = run(scene);
            int first = scene == Scenes.FULL ? 2147483647 : 0;
            each(x, OUTSIDE, "seed(#)", "-1", "MIN", "-2147483647");
            x.is("seed(2147483647)", first).is("told(11)", 2147483647).is("seed(0)", 2147483647).is("told(11)", 0).is("seed(1)", 0).is("seed(2147483646)", 1).is("told(11)", 2147483646);
            x.is("told(10)", scene == Scenes.FULL ? 16 : scene.length / 2);
        }
    }

    /** "keep(int i): IMAGE i becomes what is so (nothing can be undone then): 1. UNKNOWN." */
    private static void promise20Keep() {
        for (String[] scene : SCENES) {
            Run x = run(scene);
            each(x, UNKNOWN, "keep(#)", "-1", "2", "MIN", "MAX");
            x.is("keep(0)", 1).is("told(10)", 0).refuses(NOT, "undo(1)").does("rule(1)").is("keep(1)", 1).is("told(10)", 0).is("keep(1)", 1).is("keep(0)", 1).is("goBack(0)", 1).is("told(1)", 1);
        }
    }

    /** "goBack(int i): What is so becomes IMAGE i (nothing can be undone then): 1. UNKNOWN, NOT: it was not kept." */
    private static void promise21GoBack() {
        for (String[] scene : SCENES) {
            each(run(scene), UNKNOWN, "goBack(#)", "-1", "2", "MIN", "MAX");
        }
        each(run(Scenes.NEW), NOT, "goBack(#)", "0", "1");
        each(run(Scenes.LEAST), NOT, "goBack(#)", "0", "1");
        run(Scenes.LEAST).does("keep(1)").refuses(NOT, "goBack(0)").is("goBack(1)", 1).is("told(0)", 1);
        Run x = run(Scenes.FULL).is("goBack(0)", 1).told(4, 0, 0, 0, 0, 0, 0, NONE, 20, NONE, 0, 0).is("goBack(1)", 1).told(4, 1, 25, 0, 0, 8, 999, 1, 20, NONE, 0, 7).refuses(NOT, "undo(1)");
        x.does("drop(3)", "drop(2)", "drop(1)", "drop(0)").is("told(10)", 4).is("goBack(1)", 1).told(4, 1, 25, 0, 0, 8, 999, 1, 20, NONE, 0, 7);
    }

    /** "what is so": a look changes nothing, whatever it answers. */
    private static void looksChangeNothing() {
        String[] looks = {
            "told(2)", "told(3)", "told(4)", "told(5)", "told(6)", "told(7)", "told(9)", "told(11)", "gridAt(0, 7)", "gridAt(0, 8)", "gridAt(0, 10)", "nodeAt(0, 1, 1, 0)",
            "nodeAt(0, 1, 1, 2)", "cellAt(0, 0, 0, 0)", "cellAt(0, 0, 0, 2)", "cellAt(0, 0, 0, 3)", "which(0, 0)", "which(64000, 64000)", "moved(0, 0, 0)", "moved(64000, 64000, 1)",
            "back(0, 0, 0)", "back(64000, 64000, 1)", "back(-1, 0, 2)", "back(5000, 5000, 3)",
        };
        for (String[] scene : SCENES) {
            Run x = run(scene);
            for (String look : looks) {
                x.changesNothing(look);
            }
        }
    }
}
