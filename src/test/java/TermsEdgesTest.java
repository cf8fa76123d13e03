/**
 * The sentences of the document's "Terms" that name a boundary case, each with a test of its own: on the last value that is
 * allowed and on the first that is not.
 */
public final class TermsEdgesTest {
    private static final int NONE = Run.NONE, PLUS = Run.PLUS;
    private static final int UNKNOWN = Run.UNKNOWN, OUTSIDE = Run.OUTSIDE, NOT = Run.NOT, FULL = Run.FULL;
    private static final Due due = new Due("TermsEdgesTest");

    public static void main(String[] args) {
        rounded();
        roundedByLargeNumbers();
        firstRefusalOfSeveral();
        refusalsFarBelow();
        place();
        sixGridsAtMost();
        noneAtFirst();
        oneNumberLess();
        corner();
        step();
        columnsAndRows();
        nodes();
        offsets();
        offsetsAsTheGridComes();
        cells();
        groundWithItsBorder();
        groundNotBeyond1000();
        lesserStepThanTheParent();
        groundPartOfTheParents();
        groundsOfTheSameParent();
        groundsOfTwoWithoutParent();
        groundsOfOtherParents();
        belongsToTheFirst();
        belongsAsLongAsThereIsOne();
        free();
        cellOfTheLastNodes();
        ruleAtFirst();
        rule0FromNodeToNode();
        rule1Halves();
        rule2BothCases();
        movedBelow0AndBeyond();
        newPlace();
        found();
        goesRound();
        leadsOut();
        noneWithRound60();
        leadsOutAheadOfTheOthers();
        steepness();
        sure();
        area();
        folded();
        border();
        gap();
        gapWithUnlikeSides();
        gapOfLaterParents();
        book();
        wrong();
        seed();
        drawsOfOffsets();
        drawsOfGridsAndNodes();
        drawsOnlyIfThereAreGrids();
        sixteenAtMost();
        undoneEachDeed();
        undoneSinceTheImage();
        undoneGridsAsTheyWere();
        undoneSeedAndBookStay();
        images();
        calls512();
        due.end();
    }

    private static Run run(String... begun) {
        return new Run(due, begun);
    }

    /** "ROUNDED is the whole number nearest to it, of two the greater one (of -3 by 2 it is -1)." */
    private static void rounded() {
        // Of dx at 31, 32 and 33 of 64: just less than a half of it, a half, just more.
        int[][] halves = {
            {-999, -484, -499, -515}, {-5, -2, -2, -3}, {-3, -1, -1, -2}, {-2, -1, -1, -1}, {-1, 0, 0, -1}, {0, 0, 0, 0},
            {1, 0, 1, 1}, {2, 1, 1, 1}, {3, 1, 2, 2}, {5, 2, 3, 3}, {999, 484, 500, 515},
        };
        for (int[] h : halves) {
            for (int rule = 0; rule <= 2; rule += 2) {
                Run x = run("grid(NONE, 0, 0, 1, 2, 2)", "rule(" + rule + ")", "node(0, 1, 0, " + h[0] + ", 0)");
                Run y = run("grid(NONE, 0, 0, 1, 2, 2)", "rule(" + rule + ")", "node(0, 0, 1, 0, " + h[0] + ")");
                for (int i = 1; i <= 3; i++) {
                    x.place(30 + i, 0, 0, 30 + i + h[i], 0);
                    y.place(0, 30 + i, 0, 0, 30 + i + h[i]);
                }
            }
        }
    }

    /** The same in the largest cell, where a half is missed by one in some millions. */
    private static void roundedByLargeNumbers() {
        Run x = run("grid(NONE, 0, 0, 64, 2, 2)", "node(0, 1, 1, 1, -1)");
        x.place(2048, 4096, 0, 2049, 4096).place(2047, 4096, 0, 2047, 4096).place(2049, 4096, 0, 2050, 4095);
        x.place(4096, 2048, 0, 4097, 2048).place(4096, 2047, 0, 4096, 2047).place(4096, 2049, 0, 4097, 2048);
        x.place(2048, 4095, 0, 2048, 4095).place(2049, 4095, 0, 2050, 4094).place(4095, 2048, 0, 4095, 2048);
        x.does("rule(2)");
        x.place(2048, 4096, 0, 2049, 4096).place(2047, 4096, 0, 2047, 4096).place(2049, 4096, 0, 2050, 4095);
        x.place(4096, 2048, 0, 4097, 2048).place(4096, 2047, 0, 4096, 2047).place(4096, 2049, 0, 4097, 2048);
        x.does("rule(0)", "fill(0, -999, 999)", "node(0, 1, 1, -998, 998)");
        x.place(2048, 4096, 0, 2048 - 998, 4096 + 999).place(2047, 4096, 0, 2047 - 999, 4096 + 999).place(2049, 4096, 0, 2049 - 998, 4096 + 998);
    }

    /** "REFUSALS, of several the first in this order: UNKNOWN ..., OUTSIDE ..., NOT ..., FULL." */
    private static void firstRefusalOfSeveral() {
        run(Scenes.FULL)
            .refuses(UNKNOWN, "gridAt(6, 11)", "gridAt(-1, -1)", "nodeAt(6, 0, 0, 4)", "nodeAt(0, 5, 0, 4)", "nodeAt(0, 0, 5, -1)")
            .refuses(UNKNOWN, "cellAt(6, 0, 0, 4)", "cellAt(0, 4, 0, 4)", "cellAt(0, 0, 4, -1)")
            .refuses(UNKNOWN, "grid(6, -1, 0, 1, 2, 2)", "grid(6, 0, 0, 1, 2, 2)", "grid(-2, 500, 500, 1, 2, 2)", "grid(6, 0, 0, 65, 6, 6)")
            .refuses(UNKNOWN, "node(6, 0, 0, 1000, 0)", "node(0, 5, 0, 1000, 0)", "node(0, 0, 5, 0, -1000)", "fill(6, 1000, 0)", "fill(-1, 0, -1000)")
            .refuses(OUTSIDE, "grid(0, 0, 0, 65, 2, 2)", "grid(NONE, 0, 0, 64, 6, 5)", "grid(0, 990, 0, 64, 2, 2)", "grid(NONE, 990, 900, 64, 2, 2)")
            .refuses(OUTSIDE, "grid(0, -1, 64, 32, 3, 3)", "grid(NONE, 500, 500, 0, 2, 2)", "write(-1, 0, 0)", "write(0, 64001, 0)")
            .refuses(NOT, "grid(NONE, 0, 0, 64, 5, 5)", "grid(0, 0, 0, 64, 2, 2)", "grid(0, 64, 64, 32, 3, 3)", "grid(2, 96, 96, 1, 2, 2)")
            .refuses(FULL, "grid(NONE, 500, 500, 1, 2, 2)", "grid(0, 0, 0, 32, 2, 2)", "grid(2, 64, 64, 1, 2, 2)", "write(0, 0, 0)");
        run(Scenes.NEW)
            .refuses(UNKNOWN, "grid(0, 1001, 0, 0, 1, 6)", "gridAt(0, 11)", "nodeAt(0, 0, 0, 4)", "cellAt(0, 0, 0, 4)")
            .refuses(UNKNOWN, "node(0, 0, 0, 1000, 0)", "fill(0, 0, 1000)", "goBack(2)", "goBack(-1)")
            .refuses(OUTSIDE, "drift(0)", "drift(13)", "undo(0)", "undo(17)")
            .refuses(NOT, "drift(1)", "drift(12)", "undo(1)", "undo(16)", "goBack(0)", "goBack(1)");
        run(Scenes.LEAST)
            .refuses(UNKNOWN, "grid(1, 0, 0, 1, 2, 2)", "fit(1)", "drop(1)")
            .refuses(OUTSIDE, "grid(0, 0, 0, 0, 2, 2)", "grid(NONE, 0, 0, 1, 2, 6)", "undo(17)")
            .refuses(NOT, "grid(0, 0, 0, 1, 2, 2)", "grid(NONE, 0, 0, 1, 2, 2)", "fit(0)", "undo(2)");
    }

    /** "They are far below all that is counted: -1000000001 and on." */
    private static void refusalsFarBelow() {
        due.is("UNKNOWN", ShiftGrids.UNKNOWN, -1000000001);
        due.is("OUTSIDE", ShiftGrids.OUTSIDE, -1000000002);
        due.is("NOT", ShiftGrids.NOT, -1000000003);
        due.is("FULL", ShiftGrids.FULL, -1000000004);
        due.is("NONE", ShiftGrids.NONE, -1);
        due.is("PLUS", ShiftGrids.PLUS, 1000000);
        // The least that is counted: x of a place moved, in PLUS; an area of a cell.
        run("grid(NONE, 0, 0, 1, 2, 2)", "fill(0, -999, -999)").is("moved(0, 0, 0)", 999001).is("moved(0, 0, 1)", 999001)
            .is("back(-10000, -10000, 2)", 990000).is("back(-10000, -10000, 3)", 990000);
    }

    /** "A PLACE: x and y, 0 .. 64000 each (0 to 1000 units)." */
    private static void place() {
        for (String[] scene : new String[][] {Scenes.NEW, Scenes.LEAST}) {
            Run x = run(scene);
            int here = scene.length == 0 ? NONE : 0;
            x.place(0, 0, here, 0, 0).place(64000, 0, NONE, 64000, 0).place(0, 64000, NONE, 0, 64000).place(64000, 64000, NONE, 64000, 64000);
            for (String bad : new String[] {"-1, 0", "0, -1", "64001, 0", "0, 64001", "-1, 64001", "MIN, 0", "0, MIN", "MAX, 0", "0, MAX", "MIN, MAX"}) {
                x.refuses(OUTSIDE, "which(" + bad + ")", "moved(" + bad + ", 0)", "moved(" + bad + ", 1)", "write(" + bad + ", 0)");
            }
            int had = scene.length == 0 ? 0 : 1;
            x.is("write(0, 0, 0)", had + 1).is("write(64000, 0, 64000)", had + 2).is("write(0, 64000, 0)", had + 3).is("write(64000, 64000, 64000)", had + 4);
            x.is("told(9)", NONE);
        }
    }

    /** "GRIDS (6 at most ...)" */
    private static void sixGridsAtMost() {
        Run x = run("grid(NONE, 0, 0, 10, 2, 2)", "grid(NONE, 10, 0, 10, 2, 2)", "grid(NONE, 20, 0, 10, 2, 2)", "grid(NONE, 30, 0, 10, 2, 2)");
        x.is("grid(NONE, 40, 0, 10, 2, 2)", 4).is("told(0)", 5).is("grid(NONE, 50, 0, 10, 2, 2)", 5).is("told(0)", 6);
        x.refuses(FULL, "grid(NONE, 60, 0, 10, 2, 2)", "grid(0, 0, 0, 9, 2, 2)", "grid(5, 59, 9, 1, 2, 2)");
        x.is("told(0)", 6).is("drop(0)", 5).is("grid(NONE, 0, 0, 10, 2, 2)", 5).refuses(FULL, "grid(NONE, 60, 0, 10, 2, 2)");
        x.is("undo(1)", 7).is("grid(4, 50, 0, 9, 2, 2)", 5).refuses(FULL, "grid(NONE, 60, 0, 10, 2, 2)");
    }

    /** "GRIDS (... none at first)" */
    private static void noneAtFirst() {
        run().is("told(0)", 0).refuses(UNKNOWN, "gridAt(0, 0)", "gridAt(-1, 0)", "nodeAt(0, 0, 0, 0)", "cellAt(0, 0, 0, 0)", "fill(0, 0, 0)");
    }

    /** "numbered as they came; if one goes, later ones have one number less." */
    private static void oneNumberLess() {
        String[] six = {
            "grid(NONE, 0, 0, 20, 2, 2)", "grid(NONE, 20, 0, 20, 2, 2)", "grid(0, 0, 0, 10, 2, 2)", "grid(1, 20, 0, 9, 2, 2)",
            "grid(3, 20, 0, 8, 2, 2)", "grid(2, 0, 0, 7, 2, 2)", "fill(0, 1, 0)", "fill(1, 2, 0)", "fill(2, 3, 0)", "fill(3, 4, 0)", "fill(4, 5, 0)", "fill(5, 6, 0)",
        };
        // The last one: no other number changes. The one ahead of it: the last has one less.
        run(six).is("drop(5)", 5).refuses(UNKNOWN, "gridAt(5, 0)", "drop(5)").is("gridAt(4, 0)", 3).is("gridAt(4, 3)", 8).is("nodeAt(4, 0, 0, 0)", PLUS + 5);
        run(six).is("drop(4)", 5).is("gridAt(4, 0)", 2).is("gridAt(4, 3)", 7).is("nodeAt(4, 1, 1, 0)", PLUS + 6).is("gridAt(3, 0)", 1).is("gridAt(3, 6)", 0);
        // Then the first: all have one less, their PARENTS too.
        Run x = run(six).is("drop(5)", 5).is("drop(2)", 4).is("gridAt(3, 0)", 2).is("gridAt(2, 0)", 1).is("drop(0)", 3);
        x.is("gridAt(0, 0)", NONE).is("gridAt(1, 0)", 0).is("gridAt(2, 0)", 1).is("gridAt(2, 7)", 2).is("gridAt(0, 1)", 20);
        x.is("nodeAt(0, 0, 0, 0)", PLUS + 2).is("nodeAt(1, 0, 0, 0)", PLUS + 4).is("nodeAt(2, 0, 0, 0)", PLUS + 5).refuses(UNKNOWN, "gridAt(3, 0)");
        x.is("which(1280, 0)", 2).is("grid(NONE, 40, 0, 1, 2, 2)", 3).is("undo(1)", 15).is("undo(3)", 12).is("told(0)", 6).is("gridAt(5, 0)", 2);
    }

    /** "a corner X, Y (units, 0 .. 1000)" */
    private static void corner() {
        Run x = run();
        x.refuses(OUTSIDE, "grid(NONE, -1, 0, 1, 2, 2)", "grid(NONE, 0, -1, 1, 2, 2)", "grid(NONE, -1, -1, 1, 2, 2)");
        x.refuses(OUTSIDE, "grid(NONE, 1001, 0, 1, 2, 2)", "grid(NONE, 0, 1001, 1, 2, 2)", "grid(NONE, MIN, 0, 1, 2, 2)", "grid(NONE, 0, MIN, 1, 2, 2)");
        x.refuses(OUTSIDE, "grid(NONE, MAX, 0, 1, 2, 2)", "grid(NONE, 0, MAX, 1, 2, 2)", "grid(NONE, MAX, MAX, 64, 5, 5)", "grid(NONE, -64, 0, 64, 3, 3)");
        // A corner of 1000 is within its bounds, but every ground goes beyond there.
        x.refuses(OUTSIDE, "grid(NONE, 1000, 0, 1, 2, 2)", "grid(NONE, 0, 1000, 1, 2, 2)");
        x.is("grid(NONE, 0, 0, 1, 2, 2)", 0).is("grid(NONE, 999, 0, 1, 2, 2)", 1).is("grid(NONE, 0, 999, 1, 2, 2)", 2).is("grid(NONE, 999, 999, 1, 2, 2)", 3);
        x.is("gridAt(0, 1)", 0).is("gridAt(0, 2)", 0).is("gridAt(1, 1)", 999).is("gridAt(1, 2)", 0).is("gridAt(2, 1)", 0).is("gridAt(2, 2)", 999).is("gridAt(3, 2)", 999);
    }

    /** "a STEP (units, 1 .. 64)" */
    private static void step() {
        Run x = run();
        x.refuses(OUTSIDE, "grid(NONE, 0, 0, 0, 2, 2)", "grid(NONE, 0, 0, 65, 2, 2)", "grid(NONE, 0, 0, -1, 2, 2)", "grid(NONE, 500, 500, -64, 2, 2)");
        x.refuses(OUTSIDE, "grid(NONE, 0, 0, MIN, 2, 2)", "grid(NONE, 0, 0, MAX, 2, 2)", "grid(NONE, 0, 0, 1073741824, 5, 5)", "grid(NONE, 1, 1, MIN, 3, 3)");
        x.is("grid(NONE, 0, 0, 64, 2, 2)", 0).is("grid(NONE, 64, 64, 1, 2, 2)", 1).is("gridAt(0, 3)", 64).is("gridAt(1, 3)", 1);
        x.place(4096, 4096, 0, 4096, 4096).is("which(4160, 4160)", 1).is("which(4161, 4160)", NONE).is("which(4160, 4161)", NONE);
    }

    /** "COLUMNS, ROWS of NODES (2 .. 5 each)" */
    private static void columnsAndRows() {
        Run x = run();
        x.refuses(OUTSIDE, "grid(NONE, 0, 0, 1, 1, 2)", "grid(NONE, 0, 0, 1, 2, 1)", "grid(NONE, 0, 0, 1, 6, 5)", "grid(NONE, 0, 0, 1, 5, 6)", "grid(NONE, 0, 0, 1, 0, 2)");
        x.refuses(OUTSIDE, "grid(NONE, 0, 0, 1, MIN, 2)", "grid(NONE, 0, 0, 1, 2, MIN)", "grid(NONE, 0, 0, 1, MAX, 2)", "grid(NONE, 0, 0, 1, 2, MAX)", "grid(NONE, 0, 0, 1, -2, -2)");
        x.refuses(OUTSIDE, "grid(NONE, 0, 0, 64, 67108865, 2)", "grid(NONE, 0, 0, 64, 2, 67108865)");
        x.is("grid(NONE, 0, 0, 1, 2, 5)", 0).is("grid(NONE, 10, 0, 1, 5, 2)", 1).is("grid(NONE, 20, 0, 1, 2, 2)", 2).is("grid(NONE, 30, 0, 1, 5, 5)", 3);
        int[][] sizes = {{2, 5}, {5, 2}, {2, 2}, {5, 5}};
        for (int g = 0; g < 4; g++) {
            int c = sizes[g][0];
            int r = sizes[g][1];
            x.is("gridAt(" + g + ", 4)", c).is("gridAt(" + g + ", 5)", r).is("fill(" + g + ", 1, 1)", c * r);
            x.is("nodeAt(" + g + ", " + (c - 1) + ", " + (r - 1) + ", 0)", PLUS + 1);
            x.refuses(UNKNOWN, "nodeAt(" + g + ", " + c + ", 0, 0)", "nodeAt(" + g + ", 0, " + r + ", 0)");
        }
    }

    /** "NODE c, r stands at X and c STEPS, Y and r STEPS" */
    private static void nodes() {
        Run x = run("grid(NONE, 744, 872, 64, 5, 3)", "rule(1)");
        for (int r = 0; r < 3; r++) {
            for (int c = 0; c < 5; c++) {
                x.does("node(0, " + c + ", " + r + ", " + (10 * c - 50) + ", " + (20 * r - 45) + ")");
            }
        }
        for (int rule = 0; rule < 3; rule++) {
            x.does("rule(" + rule + ")");
            x.place(744 * 64, 872 * 64, 0, 744 * 64 - 50, 872 * 64 - 45).place(64000, 872 * 64, 0, 64000 - 10, 872 * 64 - 45);
            x.place(744 * 64, 64000, 0, 744 * 64 - 50, 64000 - 5).place(64000, 64000, 0, 64000 - 10, 64000 - 5);
            x.place(936 * 64, 936 * 64, 0, 936 * 64 - 20, 936 * 64 - 25);
        }
        x.refuses(UNKNOWN, "node(0, 5, 0, 0, 0)", "node(0, 0, 3, 0, 0)", "node(0, -1, 0, 0, 0)", "node(0, 0, -1, 0, 0)", "node(0, 3, 4, 0, 0)", "node(0, 5, 2, 0, 0)");
        x.refuses(UNKNOWN, "nodeAt(0, 5, 0, 0)", "nodeAt(0, 0, 3, 0)", "nodeAt(0, -1, 1, 0)", "nodeAt(0, 1, -1, 0)", "nodeAt(0, 5, -1, 0)");
    }

    /** "its OFFSET is a dx, a dy (-999 .. 999 each ...)" */
    private static void offsets() {
        for (String[] scene : new String[][] {Scenes.LEAST, Scenes.FULL}) {
            Run x = run(scene);
            for (String bad : new String[] {"1000, 0", "-1000, 0", "0, 1000", "0, -1000", "MIN, 0", "0, MIN", "MAX, 0", "0, MAX", "1000, -1000"}) {
                x.refuses(OUTSIDE, "node(0, 0, 0, " + bad + ")", "fill(0, " + bad + ")");
            }
            x.is("node(0, 0, 0, -999, 999)", 1).is("nodeAt(0, 0, 0, 0)", PLUS - 999).is("nodeAt(0, 0, 0, 1)", PLUS + 999);
            x.is("node(0, 0, 0, 999, -999)", 1).is("nodeAt(0, 0, 0, 0)", PLUS + 999).is("nodeAt(0, 0, 0, 1)", PLUS - 999);
            x.does("fill(0, -999, 999)").is("nodeAt(0, 1, 1, 0)", PLUS - 999).is("nodeAt(0, 1, 1, 1)", PLUS + 999);
            x.does("fill(0, 999, -999)").is("nodeAt(0, 1, 1, 0)", PLUS + 999).is("nodeAt(0, 1, 1, 1)", PLUS - 999);
        }
    }

    /** "its OFFSET is ... 0 as the GRID comes" */
    private static void offsetsAsTheGridComes() {
        Run x = run("grid(NONE, 0, 0, 1, 5, 5)", "fill(0, 999, 999)", "keep(0)", "drop(0)", "grid(NONE, 0, 0, 1, 5, 5)");
        for (int i = 0; i < 25; i++) {
            x.is("nodeAt(0, " + i % 5 + ", " + i / 5 + ", 0)", PLUS).is("nodeAt(0, " + i % 5 + ", " + i / 5 + ", 1)", PLUS);
        }
        x.is("told(2)", 0).does("goBack(0)").is("told(2)", 25).does("drop(0)", "undo(1)").is("told(2)", 25);
        // A small one in the place of a large one that went, and one more behind it.
        Run small = run("grid(NONE, 0, 0, 1, 5, 5)", "grid(NONE, 9, 0, 1, 5, 5)", "fill(0, 7, 7)", "fill(1, 8, 8)", "drop(0)", "grid(NONE, 0, 0, 1, 2, 2)", "grid(NONE, 20, 0, 1, 3, 2)");
        small.is("told(2)", 25).is("nodeAt(0, 4, 4, 0)", PLUS + 8).is("nodeAt(1, 1, 1, 0)", PLUS).is("fill(1, 5, 5)", 4).is("fill(2, 6, 6)", 6).is("told(2)", 35);
        small.is("drop(0)", 2).is("told(2)", 10).is("nodeAt(0, 0, 0, 0)", PLUS + 5).is("nodeAt(1, 2, 1, 0)", PLUS + 6);
        // Over a parent that has other offsets it comes with 0, too: these are gaps.
        run("grid(NONE, 0, 0, 2, 3, 3)", "fill(0, 5, 5)", "grid(0, 0, 0, 1, 5, 5)").is("told(2)", 9).is("told(5)", 16).is("nodeAt(1, 4, 4, 0)", PLUS);
    }

    /** "CELL c, r has the NODES c, r; c and 1, r; c, r and 1; both and 1." The last column and row begin none. */
    private static void cells() {
        Run x = run("grid(NONE, 0, 0, 1, 5, 2)", "grid(NONE, 10, 0, 1, 2, 5)", "node(0, 4, 1, 7, 0)", "node(1, 1, 4, 0, -8)");
        x.is("cellAt(0, 3, 0, 0)", 14).is("cellAt(0, 2, 0, 0)", 0).is("cellAt(1, 0, 3, 0)", 16).is("cellAt(1, 0, 2, 0)", 0);
        x.refuses(UNKNOWN, "cellAt(0, 4, 0, 0)", "cellAt(0, 0, 1, 0)", "cellAt(0, 4, 1, 0)", "cellAt(0, -1, 0, 0)", "cellAt(0, 0, -1, 0)");
        x.refuses(UNKNOWN, "cellAt(1, 1, 0, 0)", "cellAt(1, 0, 4, 0)", "cellAt(1, 1, 3, 0)", "cellAt(1, -1, 1, 0)", "cellAt(1, MAX, 0, 0)", "cellAt(1, 0, MAX, 0)");
        x.refuses(UNKNOWN, "cellAt(1, MIN, 0, 0)", "cellAt(1, 0, MIN, 0)", "cellAt(2, 0, 0, 0)", "cellAt(-1, 0, 0, 0)", "cellAt(MIN, 0, 0, 0)", "cellAt(MAX, 0, 0, 0)");
        x.is("told(3)", 0).does("node(0, 4, 1, 16, 0)").is("told(3)", 1).is("cellAt(0, 3, 0, 1)", 0).is("cellAt(0, 2, 0, 1)", 1);
    }

    /** "The GRID's GROUND: all from its first NODE to its last one, in x and in y, its border too" */
    private static void groundWithItsBorder() {
        Run x = run("grid(NONE, 10, 20, 3, 4, 2)", "fill(0, 1, 1)");
        int left = 640, right = 19 * 64, top = 1280, bottom = 23 * 64;
        for (int[] on : new int[][] {{left, top}, {right, top}, {left, bottom}, {right, bottom}, {left, 1300}, {right, 1300}, {700, top}, {700, bottom}}) {
            x.place(on[0], on[1], 0, on[0] + 1, on[1] + 1);
        }
        int[][] off = {{left - 1, top}, {left, top - 1}, {right + 1, top}, {right, top - 1}, {left - 1, bottom}, {left, bottom + 1}, {right + 1, bottom}, {right, bottom + 1}};
        for (int[] o : off) {
            x.place(o[0], o[1], NONE, o[0], o[1]);
        }
    }

    /** "it may not go beyond 1000 units." */
    private static void groundNotBeyond1000() {
        Run x = run();
        x.refuses(OUTSIDE, "grid(NONE, 745, 0, 64, 5, 5)", "grid(NONE, 0, 745, 64, 5, 5)", "grid(NONE, 937, 0, 64, 2, 2)", "grid(NONE, 0, 937, 64, 2, 2)");
        x.refuses(OUTSIDE, "grid(NONE, 1000, 1000, 1, 2, 2)", "grid(NONE, 997, 0, 1, 5, 2)", "grid(NONE, 0, 997, 1, 2, 5)", "grid(NONE, 1000, 0, 64, 5, 5)");
        x.is("grid(NONE, 744, 744, 64, 5, 5)", 0).is("grid(NONE, 936, 0, 64, 2, 2)", 1).is("grid(NONE, 0, 936, 64, 2, 2)", 2);
        x.is("grid(NONE, 996, 100, 1, 5, 2)", 3).is("grid(NONE, 100, 996, 1, 2, 5)", 4).is("grid(NONE, 808, 680, 64, 4, 2)", 5);
        x.is("which(64000, 64000)", 0).is("which(64000, 0)", 1).is("which(0, 64000)", 2);
    }

    /** "A GRID that has a PARENT has a lesser STEP than that one" */
    private static void lesserStepThanTheParent() {
        Run x = run("grid(NONE, 0, 0, 10, 5, 5)");
        x.refuses(NOT, "grid(0, 0, 0, 10, 2, 2)", "grid(0, 0, 0, 11, 2, 2)", "grid(0, 0, 0, 64, 2, 2)").is("grid(0, 0, 0, 9, 2, 2)", 1);
        x.refuses(NOT, "grid(1, 0, 0, 9, 2, 2)").is("grid(1, 0, 0, 1, 2, 2)", 2);
        x.refuses(NOT, "grid(2, 0, 0, 1, 2, 2)").is("grid(NONE, 40, 0, 64, 2, 2)", 3).refuses(NOT, "grid(3, 40, 0, 64, 2, 2)").is("grid(3, 40, 0, 63, 2, 2)", 4);
    }

    /** "and its GROUND is part of the PARENT's." */
    private static void groundPartOfTheParents() {
        Run x = run("grid(NONE, 100, 200, 10, 3, 2)");
        x.refuses(NOT, "grid(0, 99, 200, 5, 2, 2)", "grid(0, 100, 199, 5, 2, 2)", "grid(0, 116, 200, 5, 2, 2)", "grid(0, 100, 206, 5, 2, 2)");
        x.refuses(NOT, "grid(0, 99, 200, 7, 4, 2)", "grid(0, 100, 200, 6, 2, 3)", "grid(0, 0, 0, 9, 2, 2)", "grid(0, 120, 210, 1, 2, 2)", "grid(0, 500, 500, 9, 2, 2)");
        x.refuses(NOT, "grid(0, 95, 200, 5, 2, 2)", "grid(0, 120, 200, 5, 2, 2)", "grid(0, 100, 195, 5, 2, 2)", "grid(0, 100, 210, 5, 2, 2)");
        // All of it is part of it, too.
        x.is("grid(0, 100, 200, 5, 5, 3)", 1).is("undo(1)", 1);
        x.is("grid(0, 100, 200, 5, 2, 2)", 1).is("grid(0, 115, 200, 5, 2, 2)", 2).is("grid(0, 100, 205, 5, 2, 2)", 3).is("grid(0, 115, 205, 5, 2, 2)", 4);
    }

    /** "GROUNDS of two GRIDS of the same PARENT ... have no more in common than a border." */
    private static void groundsOfTheSameParent() {
        Run x = run("grid(NONE, 100, 100, 64, 5, 5)", "grid(0, 130, 130, 10, 2, 2)");
        aroundTheMiddle(x, "0", 2);
    }

    /** "(or of two that have none)" */
    private static void groundsOfTwoWithoutParent() {
        Run x = run("grid(NONE, 130, 130, 10, 2, 2)");
        aroundTheMiddle(x, "NONE", 1);
        run("grid(NONE, 0, 0, 64, 2, 2)").refuses(NOT, "grid(NONE, 63, 63, 1, 2, 2)", "grid(NONE, 63, 0, 64, 5, 2)").is("grid(NONE, 63, 64, 1, 2, 2)", 1);
    }

    /** Beside, above and at the corners of a ground of 130 to 140: with one unit in common, then with a border alone. */
    private static void aroundTheMiddle(Run x, String parent, int number) {
        x.refuses(NOT, at(parent, 121, 130), at(parent, 139, 130), at(parent, 130, 121), at(parent, 130, 139), at(parent, 121, 121), at(parent, 139, 139));
        x.refuses(NOT, at(parent, 121, 139), at(parent, 139, 121), at(parent, 130, 130), "grid(" + parent + ", 134, 134, 1, 2, 2)", "grid(" + parent + ", 120, 120, 10, 4, 4)");
        x.refuses(NOT, "grid(" + parent + ", 120, 133, 10, 4, 2)", "grid(" + parent + ", 133, 120, 10, 2, 4)", "grid(" + parent + ", 130, 130, 5, 2, 2)");
        x.is(at(parent, 120, 130), number).is(at(parent, 140, 130), number + 1).is(at(parent, 130, 120), number + 2).is(at(parent, 130, 140), number + 3);
        x.is("undo(4)", number).is(at(parent, 120, 120), number).is(at(parent, 140, 140), number + 1).is(at(parent, 120, 140), number + 2).is(at(parent, 140, 120), number + 3);
        // A part of a border in common, and a border of another length.
        x.is("undo(4)", number).is(at(parent, 140, 139), number).is("grid(" + parent + ", 110, 139, 6, 2, 2)", number + 1).is("grid(" + parent + ", 129, 129, 1, 5, 2)", number + 2);
    }

    private static String at(String parent, int x, int y) {
        return "grid(" + parent + ", " + x + ", " + y + ", 10, 2, 2)";
    }

    /** That of other PARENTS is not said: a finer grid is on the ground of the coarser ones, and of no other. */
    private static void groundsOfOtherParents() {
        Run x = run("grid(NONE, 0, 0, 10, 3, 3)", "grid(NONE, 20, 0, 10, 3, 3)", "grid(0, 10, 0, 5, 3, 3)");
        x.is("grid(1, 20, 0, 5, 3, 3)", 3).is("grid(2, 10, 0, 4, 3, 3)", 4).is("grid(4, 10, 0, 3, 2, 2)", 5);
        x.refuses(NOT, "grid(0, 10, 0, 4, 2, 2)", "grid(1, 19, 0, 5, 2, 2)").is("drop(5)", 5).refuses(NOT, "grid(2, 10, 0, 3, 2, 2)").is("grid(4, 10, 0, 3, 2, 2)", 5);
    }

    /** "A PLACE BELONGS, of GRIDS that have no PARENT, to the first on whose GROUND it is" */
    private static void belongsToTheFirst() {
        Run x = run("grid(NONE, 10, 10, 10, 2, 2)", "grid(NONE, 0, 10, 10, 2, 2)", "grid(NONE, 10, 0, 10, 2, 2)", "grid(NONE, 0, 0, 10, 2, 2)");
        x.does("fill(0, 1, 0)", "fill(1, 2, 0)", "fill(2, 3, 0)", "fill(3, 4, 0)");
        x.place(640, 640, 0, 641, 640).place(639, 640, 1, 641, 640).place(640, 639, 2, 643, 639).place(639, 639, 3, 643, 639);
        x.does("drop(0)").place(640, 640, 0, 642, 640).does("drop(0)").place(640, 640, 0, 643, 640).does("drop(0)").place(640, 640, 0, 644, 640);
        x.does("drop(0)").place(640, 640, NONE, 640, 640);
    }

    /** "then, as long as there is such a one, of those whose PARENT that is to the first on whose GROUND it is." */
    private static void belongsAsLongAsThereIsOne() {
        // Two coarse ones side by side; the second has a finer one on their border, which the first takes.
        Run x = run("grid(NONE, 0, 0, 20, 2, 2)", "grid(NONE, 20, 0, 20, 2, 2)", "grid(1, 20, 0, 10, 2, 2)", "grid(0, 0, 0, 10, 2, 2)", "grid(0, 10, 0, 10, 2, 2)");
        x.is("grid(4, 10, 0, 5, 2, 2)", 5);
        x.is("which(1280, 640)", 4).is("which(1280, 641)", 0).is("which(1281, 640)", 2).is("which(1281, 641)", 1);
        // On the border of two finer ones it is the first of them, though the second has one finer still.
        x.is("which(640, 320)", 3).is("which(641, 320)", 5).is("which(641, 321)", 4).is("which(960, 320)", 5).is("which(961, 320)", 4);
        x.does("drop(3)").is("which(640, 320)", 4).is("which(639, 320)", 0);
        // Six, one inside the other, on one corner.
        Run deep = run("grid(NONE, 0, 0, 6, 2, 2)", "grid(0, 0, 0, 5, 2, 2)", "grid(1, 0, 0, 4, 2, 2)", "grid(2, 0, 0, 3, 2, 2)", "grid(3, 0, 0, 2, 2, 2)", "grid(4, 0, 0, 1, 2, 2)");
        for (int g = 0; g < 6; g++) {
            deep.is("which(" + (6 - g) * 64 + ", 0)", g).is("which(0, " + (6 - g) * 64 + ")", g).is("which(" + ((6 - g) * 64 + 1) + ", 0)", g - 1);
        }
    }

    /** "It is FREE, if it BELONGS to none."; "FREE ones do not move" */
    private static void free() {
        run("grid(NONE, 1, 1, 1, 2, 2)", "fill(0, 999, 999)").place(63, 64, NONE, 63, 64).place(64, 63, NONE, 64, 63).place(64, 64, 0, 1063, 1063)
            .place(128, 128, 0, 1127, 1127).place(129, 128, NONE, 129, 128).place(128, 129, NONE, 128, 129);
        run().place(0, 0, NONE, 0, 0).place(64000, 64000, NONE, 64000, 64000);
    }

    /** "its CELL is the one with the greatest c, r whose first NODE is not beyond it (of all that there are)" */
    private static void cellOfTheLastNodes() {
        // Behind the last column and row stand the offsets of no node: on them the last cells tell.
        Run x = run("grid(NONE, 0, 0, 1, 3, 4)");
        for (int r = 0; r < 4; r++) {
            for (int c = 0; c < 3; c++) {
                x.does("node(0, " + c + ", " + r + ", " + (100 * c + 10 * r) + ", " + (-64 * r * r) + ")");
            }
        }
        for (int rule = 0; rule < 3; rule++) {
            x.does("rule(" + rule + ")");
            x.place(128, 192, 0, 128 + 230, 192 - 576).place(0, 192, 0, 30, 192 - 576).place(128, 0, 0, 328, 0).place(128, 64, 0, 338, 0);
            x.place(64, 192, 0, 64 + 130, 192 - 576).place(64, 64, 0, 64 + 110, 0).place(64, 128, 0, 64 + 120, 128 - 256);
        }
        x.does("rule(0)");
        // In the last row of cells: 5 of 64 of the way from -256 to -576 is -25; in the row ahead of it -15 of -192.
        x.place(128, 133, 0, 128 + 221, 133 - 281).place(128, 123, 0, 128 + 219, 123 - 241).place(128, 191, 0, 128 + 230, 191 - 571);
        x.does("rule(2)").place(128, 133, 0, 128 + 221, 133 - 281).place(127, 192, 0, 127 + 228, 192 - 576).place(128, 191, 0, 128 + 230, 191 - 571);
    }

    /** "By RULE (0 at first)" */
    private static void ruleAtFirst() {
        // A quarter of the way in both, of 64 at the last node: 4 by rule 0, none by rule 1, 16 by rule 2.
        run("grid(NONE, 0, 0, 1, 2, 2)", "node(0, 1, 1, 64, 0)").is("told(1)", 0).is("moved(16, 16, 0)", PLUS + 20).does("rule(1)")
            .is("moved(16, 16, 0)", PLUS + 16).does("rule(2)").is("moved(16, 16, 0)", PLUS + 32).does("rule(0)").is("moved(16, 16, 0)", PLUS + 20);
    }

    /** "u and v how far it is beyond this NODE in x, in y (0 .. D)": rule 0 tells just the node's offset at 0 and at D, in the largest cell. */
    private static void rule0FromNodeToNode() {
        Run x = run("grid(NONE, 0, 0, 64, 2, 2)", "node(0, 0, 0, -999, 999)", "node(0, 1, 0, 999, 998)", "node(0, 0, 1, 998, -999)", "node(0, 1, 1, -998, -998)");
        x.place(0, 0, 0, -999, 999).place(4096, 0, 0, 4096 + 999, 998).place(0, 4096, 0, 998, 4096 - 999).place(4096, 4096, 0, 4096 - 998, 4096 - 998);
        // Of 1998 by 4096 the nearest is 0, of twice as much it is 1.
        x.is("moved(1, 0, 0)", PLUS + 1 - 999).is("moved(2, 0, 0)", PLUS + 2 - 998).is("moved(4095, 0, 0)", PLUS + 4095 + 999).is("moved(4094, 0, 0)", PLUS + 4094 + 998);
        x.is("moved(2048, 2048, 0)", PLUS + 2048).is("moved(2048, 2048, 1)", PLUS + 2048);
    }

    /** "of c, if 2 u is less than D, else of c and 1; likewise r." */
    private static void rule1Halves() {
        for (int step : new int[] {1, 3, 64}) {
            int half = 32 * step;
            Run x = run("grid(NONE, 0, 0, " + step + ", 3, 3)", "rule(1)");
            for (int i = 0; i < 9; i++) {
                x.does("node(0, " + i % 3 + ", " + i / 3 + ", " + 10 * (i % 3) + ", " + 20 * (i / 3) + ")");
            }
            int[] places = {0, half - 1, half, half + 1, 2 * half, 3 * half - 1, 3 * half, 4 * half};
            int[] nodes = {0, 0, 1, 1, 1, 1, 2, 2};
            for (int i = 0; i < places.length; i++) {
                for (int k = 0; k < places.length; k++) {
                    x.is("moved(" + places[i] + ", " + places[k] + ", 0)", PLUS + places[i] + 10 * nodes[i]);
                    x.is("moved(" + places[i] + ", " + places[k] + ", 1)", PLUS + places[k] + 20 * nodes[k]);
                }
            }
        }
    }

    /** "2: if u is no less than v: e D and (f less e) u and (h less f) v, else: e D and (h less g) u and (g less e) v" */
    private static void rule2BothCases() {
        Run x = run("grid(NONE, 0, 0, 1, 2, 2)", "rule(2)", "node(0, 1, 0, 640, 0)", "node(0, 0, 1, 0, 640)");
        // f alone is told where u is beyond v, 10 for each place between them; g alone where v is beyond u.
        x.place(30, 30, 0, 30, 30).place(31, 30, 0, 41, 30).place(30, 31, 0, 30, 41).place(32, 30, 0, 52, 30).place(30, 32, 0, 30, 52);
        x.place(0, 0, 0, 0, 0).place(64, 64, 0, 64, 64).place(64, 63, 0, 74, 63).place(63, 64, 0, 63, 74).place(64, 0, 0, 704, 0).place(0, 64, 0, 0, 704);
        // e and h are told on both sides, and where u is v.
        x.does("fill(0, 0, 0)", "node(0, 0, 0, 640, 0)", "node(0, 1, 1, 0, 640)");
        x.place(30, 30, 0, 370, 330).place(31, 30, 0, 361, 330).place(30, 31, 0, 360, 331).place(64, 64, 0, 64, 704).place(0, 0, 0, 640, 0);
    }

    /** "(It may be below 0, or beyond.)" */
    private static void movedBelow0AndBeyond() {
        Run x = run("grid(NONE, 0, 0, 1, 2, 2)", "grid(NONE, 999, 999, 1, 2, 2)", "fill(0, -1, 0)", "fill(1, 0, 1)");
        x.place(0, 0, 0, -1, 0).place(1, 0, 0, 0, 0).place(64000, 64000, 1, 64000, 64001).place(64000, 63999, 1, 64000, 64000);
        x.does("fill(0, -999, -999)", "fill(1, 999, 999)").place(0, 0, 0, -999, -999).place(64000, 64000, 1, 64999, 64999);
        x.does("write(0, 0, -999)", "write(64000, 64000, 64999)").is("told(9)", NONE);
    }

    /** "BACK from a new place (x, y, each -10000 .. 80000)" */
    private static void newPlace() {
        for (String[] scene : new String[][] {Scenes.NEW, Scenes.LEAST}) {
            Run x = run(scene);
            x.back(-10000, 0, 2, 0, -10000, 0).back(0, -10000, 2, 0, 0, -10000).back(80000, 0, 2, 0, 80000, 0).back(0, 80000, 2, 0, 0, 80000);
            x.back(-10000, 80000, 2, 0, -10000, 80000).back(80000, -10000, 2, 0, 80000, -10000);
            for (String bad : new String[] {"-10001, 0", "0, -10001", "80001, 0", "0, 80001", "MIN, 0", "0, MIN", "MAX, 0", "0, MAX", "-10001, 80001"}) {
                x.refuses(OUTSIDE, "back(" + bad + ", 0)", "back(" + bad + ", 1)", "back(" + bad + ", 2)", "back(" + bad + ", 3)");
            }
        }
    }

    /** "KIND 0, as a guess is the one ahead of it (FOUND)": at once, and with ROUND 60 still. */
    private static void found() {
        run().back(0, 0, 0, 1, 0, 0).back(64000, 64000, 0, 1, 64000, 64000);
        // In one place that has an offset: the guess, then the same again.
        run("grid(NONE, 0, 0, 1, 2, 2)", "fill(0, 1, 0)").back(1, 0, 0, 2, 0, 0).back(64, 64, 0, 2, 63, 64).back(65, 0, 0, 1, 65, 0);
        run("grid(NONE, 0, 0, 1, 2, 2)", "fill(0, 0, 1)").back(0, 1, 0, 2, 0, 0).back(64, 64, 0, 2, 64, 63).back(0, 65, 0, 1, 0, 65);
        // A guess goes on by one each round, over 64 places whose offsets fall by one, then stays.
        run(creeping(10, 3, 5)).back(646, 660, 0, 60, 705, 660);
        run(creeping(10, 3, 6)).back(647, 660, 0, 59, 705, 660);
    }

    /** A grid of step 1 whose dx falls from this number by one a place in its first column of cells, and stays in later ones. */
    private static String[] creeping(int corner, int columns, int dx) {
        return new String[] {
            "grid(NONE, " + corner + ", 10, 1, " + columns + ", 2)", "fill(0, " + (dx - 64) + ", 0)", "node(0, 0, 0, " + dx + ", 0)", "node(0, 0, 1, " + dx + ", 0)",
        };
    }

    /** The same in y. */
    private static String[] creepingDown(int corner, int rows, int dy) {
        return new String[] {
            "grid(NONE, 10, " + corner + ", 1, 2, " + rows + ")", "fill(0, 0, " + (dy - 64) + ")", "node(0, 0, 0, 0, " + dy + ")", "node(0, 1, 0, 0, " + dy + ")",
        };
    }

    /** "KIND 1, as a guess was there earlier (it GOES ROUND)": in two rounds, and with ROUND 60 still. */
    private static void goesRound() {
        // 1 beyond the ground nothing moves: the guess comes back to the first one.
        run("grid(NONE, 0, 0, 1, 2, 2)", "fill(0, -1, 0)").back(64, 0, 1, 2, 64, 0).back(63, 0, 0, 2, 64, 0);
        run("grid(NONE, 0, 0, 1, 2, 2)", "fill(0, 0, -1)").back(0, 64, 1, 2, 0, 64).back(0, 63, 0, 2, 0, 64);
        // From w the guess goes on by one each round and leaves the ground with round 65 less w; the next is the first one again.
        run(creeping(10, 2, 5)).back(646, 660, 1, 60, 646, 660);
        run(creeping(10, 2, 6)).back(647, 660, 1, 59, 647, 660);
        run(creeping(10, 2, 63)).back(704, 660, 1, 2, 704, 660);
        run(creepingDown(10, 2, 5)).back(660, 646, 1, 60, 660, 646);
        // Round to a later guess than the first one: 640, then 680, 650, 680.
        run("grid(NONE, 10, 10, 1, 2, 2)", "rule(1)", "fill(0, -10, 0)", "node(0, 0, 0, -40, 0)", "node(0, 0, 1, -40, 0)")
            .back(640, 660, 1, 3, 680, 660);
    }

    /** "KIND 2, as a guess is no PLACE (below 0, beyond 64000; so, too, the first one)" */
    private static void leadsOut() {
        Run x = run();
        x.back(-1, 0, 2, 0, -1, 0).back(0, -1, 2, 0, 0, -1).back(64001, 0, 2, 0, 64001, 0).back(0, 64001, 2, 0, 0, 64001);
        x.back(0, 0, 0, 1, 0, 0).back(64000, 0, 0, 1, 64000, 0).back(0, 64000, 0, 1, 0, 64000);
        run("grid(NONE, 0, 0, 1, 2, 2)", "fill(0, 10, 0)").back(10, 5, 0, 2, 0, 5).back(9, 5, 2, 1, -1, 5);
        run("grid(NONE, 0, 0, 1, 2, 2)", "fill(0, 0, 10)").back(5, 10, 0, 2, 5, 0).back(5, 9, 2, 1, 5, -1);
        run("grid(NONE, 999, 999, 1, 2, 2)", "fill(0, -10, 0)").back(63990, 63990, 0, 2, 64000, 63990).back(63991, 63990, 2, 1, 64001, 63990);
        run("grid(NONE, 999, 999, 1, 2, 2)", "fill(0, 0, -10)").back(63990, 63990, 0, 2, 63990, 64000).back(63990, 63991, 2, 1, 63990, 64001);
        run("grid(NONE, 0, 0, 1, 2, 2)", "fill(0, 999, -999)").back(0, 0, 2, 1, -999, 999);
    }

    /** "KIND 3, if none of these is so with ROUND 60." */
    private static void noneWithRound60() {
        // One place more to go than in found(), goesRound() and leadsOutAheadOfTheOthers().
        run(creeping(10, 3, 4)).back(645, 660, 3, 60, 705, 660);
        run(creeping(10, 2, 4)).back(645, 660, 3, 60, 705, 660);
        run(creeping(10, 2, 3)).back(644, 660, 3, 60, 704, 660);
        run(creepingDown(10, 2, 4)).back(660, 645, 3, 60, 660, 705);
        run(creeping(999, 2, 3)).back(63936 + 4, 660, 3, 60, 64000, 660);
        run(creeping(0, 2, 61)).back(60, 660, 3, 60, 0, 660);
    }

    /** "(Of several KINDS 2 is ahead of the others.)" With ROUND 60 it is ahead of 3, and there is no round 61. */
    private static void leadsOutAheadOfTheOthers() {
        run(creeping(999, 2, 4)).back(63936 + 5, 660, 2, 60, 64001, 660);
        run(creeping(999, 2, 5)).back(63936 + 6, 660, 2, 59, 64001, 660);
        run(creeping(0, 2, 60)).back(59, 660, 2, 60, -1, 660);
        run(creeping(0, 2, 59)).back(58, 660, 2, 59, -1, 660);
        run(creepingDown(999, 2, 4)).back(660, 63936 + 5, 2, 60, 660, 64001);
        run(creepingDown(0, 2, 60)).back(660, 59, 2, 60, 660, -1);
        // The first guess is no place and would not move: it leads out, it is not found.
        run().back(-1, -1, 2, 0, -1, -1).back(80000, 80000, 2, 0, 80000, 80000);
    }

    /** "STEEP ...: the greatest of the two differences (without sign) ... together; in y the same of dy; the greater of both." */
    private static void steepness() {
        Run x = run("grid(NONE, 0, 0, 64, 2, 2)").is("cellAt(0, 0, 0, 0)", 0);
        // Each of the four pairs alone is the greatest one, of either sign.
        for (int sign = -1; sign <= 1; sign += 2) {
            int n = 10 * sign;
            String[] one = {"node(0, 0, 0, " + n + ", 0)", "node(0, 1, 0, " + n + ", 0)", "node(0, 0, 1, " + n + ", 0)", "node(0, 1, 1, " + n + ", 0)"};
            for (String node : one) {
                x.does("fill(0, 0, 0)", node).is("cellAt(0, 0, 0, 0)", 20);
            }
            x.does("fill(0, 0, 0)", one[0], one[1]).is("cellAt(0, 0, 0, 0)", 10).does("fill(0, 0, 0)", one[0], one[2]).is("cellAt(0, 0, 0, 0)", 10);
            x.does("fill(0, 0, 0)", one[0], one[3]).is("cellAt(0, 0, 0, 0)", 20);
            x.does("node(0, 0, 0, " + n + ", 11)").is("cellAt(0, 0, 0, 0)", 22).does("node(0, 0, 0, " + n + ", -9)").is("cellAt(0, 0, 0, 0)", 20);
        }
        // The steepest that there is: -999 to 999 both ways.
        x.does("fill(0, 999, 0)", "node(0, 1, 1, -999, 0)").is("cellAt(0, 0, 0, 0)", 3996).does("fill(0, 0, -999)", "node(0, 0, 0, 0, 999)").is("cellAt(0, 0, 0, 0)", 3996);
    }

    /** "SURE: 2 STEEP is less than D." */
    private static void sure() {
        for (int step : new int[] {1, 7, 31}) {
            int half = 32 * step;
            Run x = run("grid(NONE, 0, 0, " + step + ", 2, 2)");
            for (String sign : new String[] {"", "-"}) {
                // Two nodes one above the other: only what is side by side differs.
                for (int[] n : new int[][] {{half - 1, 1}, {half, 0}, {half + 1, 0}}) {
                    if (n[0] > 999) {
                        continue;
                    }
                    x.does("fill(0, 0, 0)", "node(0, 1, 0, " + sign + n[0] + ", 0)", "node(0, 1, 1, " + sign + n[0] + ", 0)");
                    x.is("cellAt(0, 0, 0, 0)", n[0]).is("cellAt(0, 0, 0, 1)", n[1]).is("told(3)", 1 - n[1]);
                    x.does("fill(0, 0, 0)", "node(0, 0, 1, 0, " + sign + n[0] + ")", "node(0, 1, 1, 0, " + sign + n[0] + ")");
                    x.is("cellAt(0, 0, 0, 0)", n[0]).is("cellAt(0, 0, 0, 1)", n[1]).is("told(3)", 1 - n[1]);
                }
            }
        }
        // The largest cell: 2047 is 1024 and 1023, 2048 is 1024 and 1024.
        Run x = run("grid(NONE, 0, 0, 64, 2, 2)", "fill(0, -512, 0)", "node(0, 1, 0, 512, 0)", "node(0, 0, 1, 511, 0)", "node(0, 1, 1, 0, 0)");
        x.is("cellAt(0, 0, 0, 0)", 2047).is("cellAt(0, 0, 0, 1)", 1).is("told(3)", 0);
        x.does("node(0, 0, 1, 512, 0)").is("cellAt(0, 0, 0, 0)", 2048).is("cellAt(0, 0, 0, 1)", 0).is("told(3)", 1);
        x.does("node(0, 0, 1, 513, 0)").is("cellAt(0, 0, 0, 0)", 2049).is("cellAt(0, 0, 0, 1)", 0);
    }

    /** "AREA ...: the sum of x of one times y of the next, less x of the next times y of the one, round the four." */
    private static void area() {
        run("grid(NONE, 0, 0, 1, 2, 2)").is("cellAt(0, 0, 0, 3)", 2 * 64 * 64);
        run("grid(NONE, 936, 936, 64, 2, 2)", "fill(0, 999, 999)").is("cellAt(0, 0, 0, 3)", 2 * 4096 * 4096);
        // The largest, 999 outwards at each corner; the least, 999 inwards in x: the cell of 64 is turned over to 1934.
        run("grid(NONE, 936, 936, 64, 2, 2)", "node(0, 0, 0, -999, -999)", "node(0, 1, 0, 999, -999)", "node(0, 1, 1, 999, 999)", "node(0, 0, 1, -999, 999)")
            .is("cellAt(0, 0, 0, 3)", 2L * 6094 * 6094).is("cellAt(0, 0, 0, 2)", 0);
        run("grid(NONE, 999, 999, 1, 2, 2)", "node(0, 0, 0, 999, -999)", "node(0, 1, 0, -999, -999)", "node(0, 1, 1, -999, 999)", "node(0, 0, 1, 999, 999)")
            .is("cellAt(0, 0, 0, 3)", -2L * 1934 * 2062).is("cellAt(0, 0, 0, 2)", 1);
        // Just none: all four on one line.
        run("grid(NONE, 5, 5, 1, 2, 2)", "node(0, 0, 0, 64, 0)", "node(0, 0, 1, 64, 0)").is("cellAt(0, 0, 0, 3)", 0).is("cellAt(0, 0, 0, 2)", 1);
    }

    /** "FOLDED: at one of the four, of the one ahead of it, itself, the one behind it, that sum round these three is 0 or less." */
    private static void folded() {
        // Each corner alone: one place this side of the line between its neighbours, on it (the sum is 0), one beyond it.
        int[][] corners = {{0, 0, 1, 1}, {1, 0, -1, 1}, {1, 1, -1, -1}, {0, 1, 1, -1}};
        for (int[] k : corners) {
            String at = "node(0, " + k[0] + ", " + k[1] + ", ";
            // The line is where both together are 64.
            Run x = run("grid(NONE, 3, 4, 1, 2, 2)");
            x.does(at + 32 * k[2] + ", " + 31 * k[3] + ")").is("cellAt(0, 0, 0, 2)", 0).is("told(4)", 0).is("gridAt(0, 10)", 0);
            x.does(at + 32 * k[2] + ", " + 32 * k[3] + ")").is("cellAt(0, 0, 0, 2)", 1).is("told(4)", 1).is("gridAt(0, 10)", 1);
            x.does(at + 32 * k[2] + ", " + 33 * k[3] + ")").is("cellAt(0, 0, 0, 2)", 1).is("told(4)", 1).is("gridAt(0, 10)", 1);
        }
        // The last cell of a grid with unlike sides.
        run("grid(NONE, 5, 9, 1, 5, 2)", "node(0, 4, 1, -64, -64)").is("told(4)", 1).is("gridAt(0, 10)", 1).is("cellAt(0, 3, 0, 2)", 1).is("cellAt(0, 2, 0, 2)", 0);
        run("grid(NONE, 5, 9, 1, 2, 5)", "node(0, 1, 4, -64, -64)").is("told(4)", 1).is("gridAt(0, 10)", 1).is("cellAt(0, 0, 3, 2)", 1).is("cellAt(0, 0, 2, 2)", 0);
        // The least sum above 0 at all four: 0, 0; 64, 1; 127, 2; 63, 1. With a corner nearer by one it is 0.
        Run thin = run("grid(NONE, 0, 0, 1, 2, 2)", "node(0, 1, 0, 0, 1)", "node(0, 1, 1, 63, -62)", "node(0, 0, 1, 63, -63)");
        thin.is("cellAt(0, 0, 0, 2)", 0).is("cellAt(0, 0, 0, 3)", 2).does("node(0, 1, 1, 64, -62)").is("cellAt(0, 0, 0, 2)", 1);
        // All corners on one place; a cell seen from behind.
        run("grid(NONE, 0, 0, 1, 2, 2)", "node(0, 1, 0, -64, 0)", "node(0, 0, 1, 0, -64)", "node(0, 1, 1, -64, -64)").is("cellAt(0, 0, 0, 2)", 1).is("cellAt(0, 0, 0, 3)", 0);
        run("grid(NONE, 1, 1, 1, 2, 2)", "node(0, 0, 0, 64, 0)", "node(0, 0, 1, 64, 0)", "node(0, 1, 0, -64, 0)", "node(0, 1, 1, -64, 0)")
            .is("cellAt(0, 0, 0, 2)", 1).is("cellAt(0, 0, 0, 3)", -2 * 64 * 64);
    }

    /** "BORDER, of a GRID that has a PARENT: NODES of its first, last COLUMN, ROW." */
    private static void border() {
        int[][] sizes = {{2, 2, 4}, {2, 5, 10}, {5, 2, 10}, {3, 3, 8}, {3, 5, 12}, {5, 3, 12}, {4, 4, 12}, {5, 5, 16}};
        for (int[] s : sizes) {
            Run x = run("grid(NONE, 0, 0, 64, 2, 2)", "grid(0, 0, 0, 1, " + s[0] + ", " + s[1] + ")");
            x.is("told(5)", 0).does("fill(1, 0, 1)").is("told(5)", s[2]).is("gridAt(1, 8)", s[2]).is("fit(1)", s[2]).is("told(2)", s[0] * s[1] - s[2]).is("told(5)", 0);
        }
        // One that has no PARENT has none, wherever it is.
        run("grid(NONE, 0, 0, 2, 3, 3)", "fill(0, 9, 9)", "grid(NONE, 4, 0, 2, 3, 3)").is("told(5)", 0).is("gridAt(0, 8)", 0).is("gridAt(1, 8)", 0).is("gridAt(1, 9)", 0);
    }

    /** "A GAP: such a NODE, whose OFFSET is not just what the PARENT's has there, by RULE; how great it is: the difference in x or in y (without sign), whichever is greater." */
    private static void gap() {
        int[][] differences = {{1, 0, 1}, {-1, 0, 1}, {0, 1, 1}, {0, -1, 1}, {2, -3, 3}, {-3, 2, 3}, {3, 3, 3}, {-999, 998, 999}, {998, 999, 999}};
        for (int[] d : differences) {
            Run x = run("grid(NONE, 0, 0, 2, 3, 3)", "grid(0, 1, 1, 1, 2, 2)", "node(1, 1, 0, " + d[0] + ", " + d[1] + ")");
            x.is("told(5)", 1).is("told(6)", d[2]).is("told(7)", 1).is("gridAt(1, 8)", 1).is("gridAt(1, 9)", d[2]).is("fit(1)", 1).is("told(6)", 0).is("told(7)", NONE);
        }
        run("grid(NONE, 0, 0, 2, 3, 3)", "grid(0, 1, 1, 1, 2, 2)", "fill(0, 999, -999)", "fill(1, -999, 999)").is("told(5)", 4).is("told(6)", 1998);
        // Not just what is told there: the half of 3, rounded, is 2; of -3 it is -1.
        Run x = run("grid(NONE, 0, 0, 2, 2, 2)", "grid(0, 0, 0, 1, 2, 2)", "node(0, 1, 0, 3, -3)", "node(1, 1, 0, 2, -1)").is("nodeAt(1, 1, 0, 2)", PLUS + 2);
        x.is("nodeAt(1, 1, 0, 3)", PLUS - 1).is("nodeAt(1, 1, 1, 2)", PLUS + 1).is("nodeAt(1, 1, 1, 3)", PLUS - 1).is("told(5)", 1).does("node(1, 1, 1, 1, -1)").is("told(5)", 0);
        x.does("node(1, 1, 0, 1, -1)").is("told(5)", 1).is("told(6)", 1).does("node(1, 1, 0, 2, -2)").is("told(5)", 1).is("told(6)", 1);
        // By another rule there are others: by rule 1 all four have nodes of the parent, of whom one has 3, -3.
        x.does("node(1, 1, 0, 2, -1)").is("told(5)", 0).does("rule(1)").is("nodeAt(1, 1, 0, 2)", PLUS + 3).is("nodeAt(1, 1, 1, 2)", PLUS).is("told(5)", 2);
        x.is("told(6)", 2).does("rule(2)").is("nodeAt(1, 1, 1, 2)", PLUS).is("told(5)", 1).is("told(6)", 1);
    }

    /** The same where x and y, columns and rows are unlike: each at the first and the last of its kind. */
    private static void gapWithUnlikeSides() {
        // The parent's dx rises by 10 a unit along its first row, its dy by 20 a unit along its first column.
        Run x = run("grid(NONE, 10, 50, 8, 2, 2)", "node(0, 1, 0, 80, 0)", "node(0, 0, 1, 0, 160)", "grid(0, 12, 51, 2, 4, 2)");
        int[][] told = {{0, 0, 18, 15}, {1, 0, 35, 10}, {3, 0, 70, 0}, {0, 1, 13, 45}, {2, 1, 38, 15}, {3, 1, 50, 0}};
        for (int[] t : told) {
            x.is("nodeAt(1, " + t[0] + ", " + t[1] + ", 2)", PLUS + t[2]).is("nodeAt(1, " + t[0] + ", " + t[1] + ", 3)", PLUS + t[3]);
        }
        x.is("gridAt(1, 8)", 8).is("gridAt(1, 9)", 70).is("fit(1)", 8).is("gridAt(1, 8)", 0);
        for (int[] t : told) {
            x.is("nodeAt(1, " + t[0] + ", " + t[1] + ", 0)", PLUS + t[2]).is("nodeAt(1, " + t[0] + ", " + t[1] + ", 1)", PLUS + t[3]);
        }
        for (String size : new String[] {"5, 3", "3, 5"}) {
            String last = size.equals("5, 3") ? "4, 1" : "1, 4";
            String inside = size.equals("5, 3") ? "3, 1" : "1, 3";
            run("grid(NONE, 7, 9, 64, 2, 2)", "grid(0, 8, 20, 1, " + size + ")", "node(1, " + inside + ", 9, 9)").is("told(5)", 0)
                .does("node(1, " + last + ", 0, -1)").is("told(5)", 1).is("told(6)", 1).is("gridAt(1, 8)", 1).is("gridAt(1, 9)", 1);
        }
    }

    /** The greatest one's grid is the first that has it; a gap is against the PARENT, not against those above it. */
    private static void gapOfLaterParents() {
        Run x = run("grid(NONE, 0, 0, 64, 2, 2)", "grid(0, 0, 0, 32, 3, 3)", "grid(1, 0, 0, 16, 5, 5)", "fill(0, 5, 0)");
        x.is("told(5)", 8).is("told(7)", 1).is("gridAt(2, 8)", 0).does("fill(1, 5, 0)").is("gridAt(1, 8)", 0).is("gridAt(2, 8)", 16).is("told(7)", 2);
        x.does("fill(0, 10, 0)").is("told(5)", 24).is("told(6)", 5).is("told(7)", 1).does("fill(2, -1, 0)").is("told(6)", 6).is("told(7)", 2);
    }

    /** "THE BOOK (20 at most)" */
    private static void book() {
        Run x = run().is("told(8)", 0).is("tear()", 0);
        for (int n = 1; n <= 20; n++) {
            x.is("write(0, 0, 0)", n);
        }
        x.is("told(8)", 20).refuses(FULL, "write(0, 0, 0)", "write(64000, 64000, 5)", "write(0, 0, MIN)", "write(0, 0, MAX)").is("told(8)", 20).is("told(9)", NONE);
        x.is("tear()", 20).is("write(0, 0, 0)", 1);
    }

    /** "WRONG: the first that is otherwise now; NONE." */
    private static void wrong() {
        for (int wrong = 0; wrong < 20; wrong++) {
            Run x = run("grid(NONE, 0, 0, 1, 2, 2)", "fill(0, 5, 0)");
            for (int n = 0; n < 20; n++) {
                x.is("told(9)", n <= wrong ? NONE : wrong);
                // One too little at the first that is wrong, one too much at all behind it.
                x.does("write(" + n + ", 0, " + (n + 5 + (n < wrong ? 0 : n == wrong ? -1 : 1)) + ")");
            }
            x.is("told(9)", wrong).does("fill(0, 4, 0)").is("told(9)", wrong == 0 ? 1 : 0).does("tear()").is("told(9)", NONE);
        }
        run("write(0, 0, MIN)").is("told(9)", 0);
        run("write(0, 0, MAX)").is("told(9)", 0);
        // With PLUS it is otherwise; a place of x 0 that is not moved is 0.
        run("write(5, 5, 1000005)").is("told(9)", 0);
        run("write(0, 5, 0)").is("told(9)", NONE);
    }

    /** "THE SEED (0 at first: each DRAW it becomes it times 1103515245 and 12345, left over by 2 to the 31 ...)" */
    private static void seed() {
        run().is("told(11)", 0);
        // 423346919 comes to 0 with the fifth draw, 661926866 to 2147483647, the greatest; from there five draws lead on.
        run("grid(NONE, 0, 0, 1, 2, 2)", "seed(423346919)", "drift(1)").is("told(11)", 0).does("drift(1)").is("told(11)", 229283573);
        run("grid(NONE, 0, 0, 1, 2, 2)", "seed(661926866)", "drift(1)").is("told(11)", 2147483647);
        long greatest = 2147483647L;
        long next = greatest;
        for (int draws = 0; draws < 5; draws++) {
            next = java.math.BigInteger.valueOf(next).multiply(java.math.BigInteger.valueOf(1103515245)).add(java.math.BigInteger.valueOf(12345))
                .mod(java.math.BigInteger.TWO.pow(31)).longValueExact();
        }
        run("grid(NONE, 0, 0, 1, 2, 2)", "seed(2147483647)", "drift(1)").is("told(11)", next);
    }

    /** "then DRAWS of 401, of 401, each less 200: dx, dy of that NODE." */
    private static void drawsOfOffsets() {
        // Seed, then column, row, dx, dy as they come by hand, of a grid of 2 by 2: the least, the next, the greatest, the one ahead of it; none at all.
        int[][] draws = {
            {389, 0, 1, -200, -27}, {73, 0, 0, 53, -200}, {1185, 0, 0, -199, 167}, {72, 1, 1, -158, -199},
            {278, 1, 1, 200, 97}, {355, 0, 0, -84, 200}, {241, 1, 0, 199, 42}, {74, 0, 0, -138, 199}, {109459, 1, 1, 0, 0},
        };
        for (int[] d : draws) {
            Run x = run("grid(NONE, 0, 0, 1, 2, 2)", "seed(" + d[0] + ")");
            boolean isZero = d[3] == 0 && d[4] == 0;
            x.is("drift(1)", isZero ? 0 : 1).is("told(10)", 2);
            x.is("nodeAt(0, " + d[1] + ", " + d[2] + ", 0)", PLUS + d[3]).is("nodeAt(0, " + d[1] + ", " + d[2] + ", 1)", PLUS + d[4]);
        }
    }

    /** "a DRAW of GRIDS, of its COLUMNS, of its ROWS": the first and the last of each come. */
    private static void drawsOfGridsAndNodes() {
        // Seed, then column, row, dx, dy by hand.
        int[][] wide = {{6, 0, 0, -192, -34}, {8, 4, 0, -172, -152}, {9, 0, 1, 38, -153}, {10, 4, 1, -152, -155}};
        int[][] high = {{10, 0, 0, -152, -155}, {3, 1, 0, 92, -29}, {8, 0, 4, -172, -152}, {2, 1, 4, -118, -27}};
        for (int[] d : wide) {
            nodeIs(run("grid(NONE, 0, 0, 1, 5, 2)", "seed(" + d[0] + ")").is("drift(1)", 1), 0, d);
        }
        for (int[] d : high) {
            nodeIs(run("grid(NONE, 0, 0, 1, 2, 5)", "seed(" + d[0] + ")").is("drift(1)", 1), 0, d);
        }
        int[][] grids = {{0, 0, 0, -138, 90}, {5, 1, 0, -2, -32}, {1, 0, 1, 72, -26}, {11, 0, 1, 58, -157}, {7, 0, 0, 18, -150}, {3, 1, 1, 92, -29}};
        for (int g = 0; g < 6; g++) {
            Run x = run();
            for (int i = 0; i < 6; i++) {
                x.does("grid(NONE, " + 2 * i + ", 0, 1, 2, 2)");
            }
            nodeIs(x.does("seed(" + grids[g][0] + ")").is("drift(1)", 1), g, grids[g]);
        }
    }

    private static void nodeIs(Run x, int g, int[] draws) {
        String at = "nodeAt(" + g + ", " + draws[1] + ", " + draws[2] + ", ";
        x.is(at + "0)", PLUS + draws[3]).is(at + "1)", PLUS + draws[4]);
    }

    /** "n times (if there are GRIDS)" */
    private static void drawsOnlyIfThereAreGrids() {
        run().refuses(NOT, "drift(1)", "drift(12)").is("told(11)", 0);
        run("seed(2147483647)", "grid(NONE, 0, 0, 1, 2, 2)", "drop(0)").refuses(NOT, "drift(1)").is("told(11)", 2147483647).is("told(10)", 2);
    }

    /** "UNDONE: the latest deeds ... (16 at most are kept)" */
    private static void sixteenAtMost() {
        Run x = run("grid(NONE, 0, 0, 1, 2, 2)");
        for (int n = 2; n <= 15; n++) {
            x.does("node(0, 0, 0, " + n + ", 0)").is("told(10)", n);
        }
        x.refuses(NOT, "undo(16)").does("node(0, 0, 0, 16, 0)").is("told(10)", 16).refuses(OUTSIDE, "undo(17)").is("undo(16)", 0).is("told(0)", 0);
        // The seventeenth takes the place of the first: the grid can't be undone any more.
        Run y = run("grid(NONE, 0, 0, 1, 2, 2)");
        for (int n = 2; n <= 17; n++) {
            y.does("node(0, 0, 0, " + n + ", 0)");
        }
        y.is("told(10)", 16).refuses(OUTSIDE, "undo(17)").is("undo(15)", 1).is("nodeAt(0, 0, 0, 0)", PLUS + 2).is("undo(1)", 0).is("nodeAt(0, 0, 0, 0)", PLUS).is("told(0)", 1);
        y.refuses(NOT, "undo(1)");
        // Of 24 times by draws the last 16: what is left is as behind the first eight.
        ShiftGrids z = new ShiftGrids();
        ShiftGrids eight = new ShiftGrids();
        z.grid(NONE, 0, 0, 10, 5, 5);
        eight.grid(NONE, 0, 0, 10, 5, 5);
        z.drift(12);
        z.drift(12);
        eight.drift(8);
        due.is("24 times by draws", z.told(10), 16);
        due.is("16 of them undone", z.undo(16), 0);
        for (int i = 0; i < 25; i++) {
            due.is("dx behind eight draws", z.nodeAt(0, i % 5, i / 5, 0), eight.nodeAt(0, i % 5, i / 5, 0));
            due.is("dy behind eight draws", z.nodeAt(0, i % 5, i / 5, 1), eight.nodeAt(0, i % 5, i / 5, 1));
        }
    }

    /** "the latest deeds (grid(), node(), fill(), fit(), drop(), rule(), each time BY DRAWS)": also one that leaves all as it was. */
    private static void undoneEachDeed() {
        String[] two = {"grid(NONE, 0, 0, 10, 3, 3)", "grid(0, 0, 0, 5, 3, 3)", "fill(0, 5, 5)", "rule(1)"};
        run(two).is("told(10)", 4).does("grid(0, 10, 10, 5, 3, 3)").is("undo(1)", 4).is("told(0)", 2);
        run(two).does("node(0, 0, 0, 6, 6)").is("undo(1)", 4).is("nodeAt(0, 0, 0, 0)", PLUS + 5);
        run(two).does("node(0, 0, 0, 5, 5)").is("told(10)", 5).is("undo(1)", 4).is("nodeAt(0, 0, 0, 0)", PLUS + 5);
        run(two).does("fill(0, 6, 6)").is("undo(1)", 4).is("nodeAt(0, 2, 2, 1)", PLUS + 5);
        run(two).is("fill(0, 5, 5)", 0).is("told(10)", 5).is("undo(1)", 4).is("told(2)", 9);
        run(two).is("fit(1)", 8).is("undo(1)", 4).is("told(5)", 8).is("told(2)", 9);
        run(two).does("fit(1)").is("fit(1)", 0).is("told(10)", 6).is("undo(1)", 5).is("told(5)", 0).is("undo(1)", 4).is("told(5)", 8);
        run(two).does("drop(1)").is("undo(1)", 4).is("told(0)", 2).is("gridAt(1, 0)", 0).is("told(5)", 8);
        run(two).does("rule(2)").is("undo(1)", 4).is("told(1)", 1);
        run(two).is("rule(1)", 1).is("told(10)", 5).is("undo(1)", 4).is("told(1)", 1);
        run(two).does("drift(1)").is("told(10)", 5).is("undo(1)", 4).is("nodeAt(0, 0, 0, 0)", PLUS + 5).is("told(2)", 9);
        run(two).does("drift(12)").is("told(10)", 16).is("undo(12)", 4).is("told(2)", 9).is("told(5)", 8);
        // What is no deed: looks, the book, the seed; undo itself can't be undone.
        run(two).does("write(0, 0, 0)", "tear()", "seed(5)", "told(5)", "back(5, 5, 0)", "moved(5, 5, 0)").is("told(10)", 4).is("undo(2)", 2).is("undo(1)", 1).is("told(0)", 1);
    }

    /** "since the IMAGE" */
    private static void undoneSinceTheImage() {
        for (String image : new String[] {"keep(0)", "keep(1)", "goBack(0)", "goBack(1)"}) {
            Run x = run("grid(NONE, 0, 0, 1, 2, 2)", "keep(0)", "keep(1)", "fill(0, 5, 5)", "rule(2)").is("told(10)", 2).does(image);
            x.is("told(10)", 0).refuses(NOT, "undo(1)", "undo(16)").does("rule(1)").is("told(10)", 1).refuses(NOT, "undo(2)").is("undo(1)", 0).refuses(NOT, "undo(1)");
        }
        // With sixteen kept, too; and then sixteen new ones.
        Run x = run(Scenes.FULL).is("told(10)", 16).does("keep(1)").is("told(10)", 0).refuses(NOT, "undo(1)").does("drift(12)", "drift(4)").is("told(10)", 16).is("undo(16)", 0);
        x.is("told(1)", 2).is("told(0)", 6);
    }

    /** "GRIDS, OFFSETS, RULE are as ahead of them": where they stood, too, though others came in their place. */
    private static void undoneGridsAsTheyWere() {
        String[] others = {"grid(NONE, 1, 2, 3, 4, 5)", "grid(0, 2, 3, 2, 2, 3)", "fill(1, 7, 8)", "keep(0)", "drop(1)", "drop(0)", "grid(NONE, 100, 200, 10, 2, 3)", "grid(NONE, 300, 400, 20, 5, 2)"};
        for (String back : new String[] {"undo(4)", "goBack(0)"}) {
            Run x = run(others).is("gridAt(0, 1)", 100).is("gridAt(1, 0)", NONE).is("told(2)", 0).does(back);
            int[][] were = {{NONE, 1, 2, 3, 4, 5}, {0, 2, 3, 2, 2, 3}};
            for (int g = 0; g < 2; g++) {
                for (int what = 0; what < 6; what++) {
                    x.is("gridAt(" + g + ", " + what + ")", were[g][what]);
                }
            }
            x.is("told(0)", 2).is("told(2)", 6).is("nodeAt(1, 1, 2, 0)", PLUS + 7).is("nodeAt(1, 0, 0, 1)", PLUS + 8).is("which(128, 192)", 1).is("told(10)", 0);
        }
    }

    /** "GRIDS, OFFSETS, RULE are as ahead of them; THE SEED, THE BOOK stay." */
    private static void undoneSeedAndBookStay() {
        Run x = run("grid(NONE, 0, 0, 1, 2, 2)", "write(0, 0, 7)", "seed(5)", "fill(0, 7, 7)", "write(64, 64, 71)", "rule(2)", "seed(6)").is("told(9)", NONE);
        x.is("undo(3)", 0).is("told(0)", 0).is("told(1)", 0).is("told(11)", 6).is("told(8)", 2).is("told(9)", 0);
        Run y = run("grid(NONE, 0, 0, 1, 2, 2)", "drift(1)").is("told(11)", 229283573).is("undo(1)", 1).is("told(2)", 0).is("told(11)", 229283573);
        y.does("tear()").is("undo(1)", 0).is("told(8)", 0);
    }

    /** "IMAGES 0, 1 keep GRIDS, OFFSETS, RULE, THE SEED." */
    private static void images() {
        Run x = run("seed(1)", "keep(0)", "grid(NONE, 0, 0, 2, 3, 3)", "grid(0, 0, 0, 1, 5, 5)", "fill(0, 999, -999)", "node(1, 4, 4, -999, 999)", "rule(2)", "seed(2147483647)", "keep(1)");
        x.refuses(UNKNOWN, "keep(-1)", "keep(2)", "keep(MIN)", "keep(MAX)", "goBack(-1)", "goBack(2)", "goBack(MIN)", "goBack(MAX)");
        x.does("write(0, 0, 5)", "drop(1)", "fill(0, 1, 1)", "rule(1)", "seed(3)");
        x.is("goBack(0)", 1).told(0, 0, 0, 0, 0, 0, 0, NONE, 1, 0, 0, 1);
        x.is("goBack(1)", 1).told(2, 2, 10, 1, 1, 16, 1998, 1, 1, 0, 0, 2147483647).is("gridAt(1, 0)", 0).is("gridAt(1, 4)", 5);
        x.is("nodeAt(0, 2, 2, 1)", PLUS - 999).is("nodeAt(1, 4, 4, 0)", PLUS - 999).is("nodeAt(1, 4, 4, 1)", PLUS + 999).is("nodeAt(1, 3, 3, 0)", PLUS);
        // What comes behind an image does not change it, nor does an undo.
        x.does("fill(1, 3, 3)", "undo(1)", "drop(1)", "drop(0)", "goBack(1)").is("told(2)", 10).does("goBack(0)", "goBack(1)").is("told(2)", 10);
        // The other one stays, as one is kept anew.
        x.does("goBack(0)", "grid(NONE, 5, 5, 1, 2, 2)", "keep(0)", "goBack(1)").is("told(0)", 2).does("keep(1)", "goBack(0)").is("told(0)", 1).is("gridAt(0, 1)", 5);
        run().refuses(NOT, "goBack(0)", "goBack(1)").does("keep(1)").refuses(NOT, "goBack(0)").is("goBack(1)", 1).does("keep(0)").is("goBack(0)", 1);
        run(Scenes.LEAST).refuses(NOT, "goBack(0)", "goBack(1)").does("keep(0)").refuses(NOT, "goBack(1)");
    }

    /** "An object is used for at most 512 calls after it has been made" */
    private static void calls512() {
        Run x = run("grid(NONE, 0, 0, 1, 2, 2)");
        for (int n = 1; n <= 509; n++) {
            x.is("node(0, 1, 1, " + n + ", 0)", 1);
        }
        x.is("undo(16)", 0).is("nodeAt(0, 1, 1, 0)", PLUS + 493);
    }
}
