/** Promises 1 to 8: a new object, told, gridAt, nodeAt, cellAt, which, moved, back. */
public final class WhatIsSoTest {
    private static final int NONE = -1, UNKNOWN = -1000000001, OUTSIDE = -1000000002, NOT = -1000000003;
    private static final int PLUS = 1000000;
    private static final int MIN = Integer.MIN_VALUE, MAX = Integer.MAX_VALUE;
    private static final Due due = new Due("WhatIsSoTest");

    public static void main(String[] args) {
        promise1NewObject();
        promise2ToldGaps();
        promise2ToldCells();
        promise2ToldTheRest();
        promise3GridAt();
        promise4NodeAt();
        promise5Steep();
        promise5AreaAndFolded();
        promise6Which();
        promise7MovedByRule0();
        promise7MovedInLaterCells();
        promise7MovedByRule1();
        promise7MovedByRule2();
        promise7MovedRounded();
        promise7Bounds();
        promise8Back();
        promise8BackAtRound60();
        due.end();
    }

    private static void promise1NewObject() {
        ShiftGrids x = new ShiftGrids();
        due.told("new", x, 0, 0, 0, 0, 0, 0, 0, NONE, 0, NONE, 0, 0);
        due.is("gridAt", x.gridAt(0, 0), UNKNOWN);
        due.is("nodeAt", x.nodeAt(0, 0, 0, 0), UNKNOWN);
        due.is("cellAt", x.cellAt(0, 0, 0, 0), UNKNOWN);
        due.is("node", x.node(0, 0, 0, 0, 0), UNKNOWN);
        due.is("fill", x.fill(0, 0, 0), UNKNOWN);
        due.is("fit", x.fit(0), UNKNOWN);
        due.is("drop", x.drop(0), UNKNOWN);
        due.is("drift", x.drift(1), NOT);
        due.is("undo", x.undo(1), NOT);
        due.is("tear", x.tear(), 0);
        due.is("goBack 0", x.goBack(0), NOT);
        due.is("goBack 1", x.goBack(1), NOT);
        due.place(x, 0, 0, NONE, 0, 0);
        due.place(x, 64000, 64000, NONE, 64000, 64000);
        due.back(x, 64000, 0, 0, 1, 64000, 0);
        // One object does not know of another.
        ShiftGrids other = new ShiftGrids();
        other.grid(NONE, 0, 0, 1, 2, 2);
        other.rule(2);
        other.seed(5);
        other.write(0, 0, 1);
        due.told("beside another", x, 0, 0, 0, 0, 0, 0, 0, NONE, 0, NONE, 0, 0);
    }

    /** A grid of 3 by 3, a finer one on its first cell, one more inside its last cell. */
    private static ShiftGrids three() {
        ShiftGrids x = new ShiftGrids();
        due.is("grid 0", x.grid(NONE, 0, 0, 10, 3, 3), 0);
        due.is("grid 1", x.grid(0, 0, 0, 5, 3, 3), 1);
        due.is("grid 2", x.grid(0, 10, 10, 2, 2, 2), 2);
        return x;
    }

    private static void promise2ToldGaps() {
        ShiftGrids x = three();
        due.is("told(0)", x.told(0), 3);
        x.node(2, 1, 0, 0, -1);
        due.is("a gap of 1", x.told(5), 1);
        due.is("its size", x.told(6), 1);
        due.is("its grid", x.told(7), 2);
        x.node(2, 1, 0, 0, 0);
        x.node(0, 0, 0, 100, -40);
        due.is("told(2)", x.told(2), 1);
        due.is("gaps by rule 0", x.told(5), 3);
        due.is("greatest", x.told(6), 100);
        due.is("the grid", x.told(7), 1);
        x.rule(1);
        due.is("gaps by rule 1", x.told(5), 1);
        x.rule(2);
        due.is("gaps by rule 2", x.told(5), 3);
        x.node(2, 0, 0, 0, 5);
        due.is("gaps of two grids", x.told(5), 4);
        due.is("greatest", x.told(6), 100);
        x.node(2, 1, 1, -3, -100);
        due.is("greatest of two", x.told(6), 100);
        due.is("the first of two", x.told(7), 1);
        x.node(2, 1, 1, -3, -101);
        due.is("greatest", x.told(6), 101);
        due.is("the second", x.told(7), 2);
        due.is("told(2)", x.told(2), 3);
        // What stands inside the border is no gap.
        x.node(1, 1, 1, 999, 999);
        due.is("told(5)", x.told(5), 5);
        due.is("told(6)", x.told(6), 101);
    }

    private static void promise2ToldCells() {
        ShiftGrids x = three();
        x.node(0, 0, 0, 159, 0);
        due.is("all sure", x.told(3), 0);
        x.node(0, 0, 0, 160, 0);
        due.is("2 STEEP is D", x.told(3), 1);
        x.node(0, 0, 0, 0, -160);
        due.is("in y", x.told(3), 1);
        x.node(0, 0, 0, 0, 0);
        x.node(1, 1, 1, 80, 0);
        due.is("all four of grid 1", x.told(3), 4);
        x.node(1, 1, 1, 0, 0);
        x.node(0, 1, 1, -319, -319);
        due.is("not folded", x.told(4), 0);
        x.node(0, 1, 1, -320, -320);
        due.is("folded", x.told(4), 1);
        x.node(2, 0, 0, 999, 999);
        due.is("folded in two grids", x.told(4), 2);
        // Where all nodes have the same, no cell is steep or folded, though it is far from what is behind the grid.
        x.fill(0, -999, -999);
        x.fill(1, 999, 999);
        x.fill(2, -999, 999);
        due.is("all sure", x.told(3), 0);
        due.is("none folded", x.told(4), 0);
        due.is("none folded in grid 2", x.gridAt(2, 10), 0);
    }

    private static void promise2ToldTheRest() {
        ShiftGrids x = three();
        x.rule(2);
        due.is("told(1)", x.told(1), 2);
        x.write(0, 0, 0);
        x.write(5, 5, 6);
        x.write(7, 7, 8);
        due.is("told(8)", x.told(8), 3);
        due.is("told(9)", x.told(9), 1);
        x.fill(1, 1, 0);
        due.is("told(9)", x.told(9), 0);
        due.is("told(10)", x.told(10), 5);
        x.seed(2147483647);
        due.is("told(11)", x.told(11), 2147483647);
        for (int what : new int[] {-1, 12, MIN, MAX}) {
            due.is("told(" + what + ")", x.told(what), OUTSIDE);
        }
    }

    private static void promise3GridAt() {
        ShiftGrids x = three();
        due.is("grid 3", x.grid(1, 1, 2, 3, 2, 3), 3);
        x.node(1, 0, 0, -7, 3);
        x.node(1, 2, 2, 6, -4);
        x.node(0, 1, 1, -320, -320);
        // Gaps of grid 1: -7, 3 against 0, 0; 6, -4 against -320, -320; 0, 0 against -160, -160 at 2, 1 and at 1, 2.
        // Of grid 2: 0, 0 against -320, -320 where it begins, against four fifths of that and less at its other nodes.
        // Of grid 3: 0, 0 against -3, 1 (48 by 100 of -7, 3) and against -1, 0 (12 by 100) in its first row.
        int[][] want = {
            {NONE, 0, 0, 10, 3, 3, 2, 0, 0, 0, 1},
            {0, 0, 0, 5, 3, 3, 1, 1, 4, 326, 0},
            {0, 10, 10, 2, 2, 2, 0, 1, 4, 320, 0},
            {1, 1, 2, 3, 2, 3, 0, 2, 2, 3, 0},
        };
        for (int g = 0; g < want.length; g++) {
            for (int what = 0; what < 11; what++) {
                due.is("gridAt(" + g + ", " + what + ")", x.gridAt(g, what), want[g][what]);
            }
        }
        due.is("sum of gaps", x.told(5), 10);
        for (int g : new int[] {-1, 4, 6, MIN, MAX}) {
            due.is("gridAt(" + g + ", 0)", x.gridAt(g, 0), UNKNOWN);
            due.is("gridAt(" + g + ", 11)", x.gridAt(g, 11), UNKNOWN);
        }
        for (int what : new int[] {-1, 11, MIN, MAX}) {
            due.is("gridAt(0, " + what + ")", x.gridAt(0, what), OUTSIDE);
        }
    }

    private static void promise4NodeAt() {
        ShiftGrids x = three();
        x.node(0, 0, 0, 101, -41);
        x.node(1, 2, 1, 999, -999);
        due.is("dx", x.nodeAt(1, 2, 1, 0), PLUS + 999);
        due.is("dy", x.nodeAt(1, 2, 1, 1), PLUS - 999);
        due.is("other dx", x.nodeAt(1, 1, 2, 0), PLUS);
        due.is("no parent dx", x.nodeAt(0, 0, 0, 2), NONE);
        due.is("no parent dy", x.nodeAt(0, 0, 0, 3), NONE);
        due.is("parent dx", x.nodeAt(1, 0, 0, 2), PLUS + 101);
        due.is("parent dy", x.nodeAt(1, 0, 0, 3), PLUS - 41);
        due.is("half, rounded up", x.nodeAt(1, 1, 0, 2), PLUS + 51);
        due.is("half below 0, rounded up", x.nodeAt(1, 1, 0, 3), PLUS - 20);
        due.is("a quarter", x.nodeAt(1, 1, 1, 2), PLUS + 25);
        due.is("a quarter below 0", x.nodeAt(1, 1, 1, 3), PLUS - 10);
        x.rule(1);
        due.is("by rule 1", x.nodeAt(1, 1, 1, 2), PLUS);
        x.rule(2);
        due.is("by rule 2", x.nodeAt(1, 1, 1, 2), PLUS + 51);
        int[][] unknown = {{-1, 0, 0}, {3, 0, 0}, {0, -1, 0}, {0, 3, 0}, {0, 0, -1}, {0, 0, 3}, {2, 2, 0}, {2, 0, 2}, {MIN, 0, 0}, {0, MAX, 0}, {0, 0, MIN}};
        for (int[] n : unknown) {
            due.is("nodeAt unknown", x.nodeAt(n[0], n[1], n[2], 0), UNKNOWN);
            due.is("nodeAt unknown and outside", x.nodeAt(n[0], n[1], n[2], 4), UNKNOWN);
        }
        for (int what : new int[] {-1, 4, MIN, MAX}) {
            due.is("nodeAt what " + what, x.nodeAt(0, 0, 0, what), OUTSIDE);
        }
    }

    private static void promise5Steep() {
        ShiftGrids x = new ShiftGrids();
        x.grid(NONE, 3, 5, 4, 2, 2);
        x.node(0, 0, 0, 10, 0);
        x.node(0, 1, 0, -13, 0);
        x.node(0, 0, 1, 5, 0);
        x.node(0, 1, 1, 2, 0);
        // In x: side by side 23 and 3, one above the other 5 and 15.
        due.is("steep in x", x.cellAt(0, 0, 0, 0), 38);
        due.is("sure", x.cellAt(0, 0, 0, 1), 1);
        x.node(0, 1, 1, 2, 60);
        // In y: 0 and 60, 0 and 60.
        due.is("steep in y", x.cellAt(0, 0, 0, 0), 120);
        due.is("sure", x.cellAt(0, 0, 0, 1), 1);
        x.node(0, 1, 1, 2, 64);
        due.is("steep in y", x.cellAt(0, 0, 0, 0), 128);
        due.is("2 STEEP is D", x.cellAt(0, 0, 0, 1), 0);
        x.node(0, 1, 1, 2, 63);
        due.is("just sure", x.cellAt(0, 0, 0, 1), 1);
        x.fill(0, -999, 999);
        due.is("all the same", x.cellAt(0, 0, 0, 0), 0);
        int[][] unknown = {{-1, 0, 0}, {1, 0, 0}, {0, -1, 0}, {0, 1, 0}, {0, 0, -1}, {0, 0, 1}, {0, MAX, 0}, {0, 0, MAX}, {MAX, 0, 0}, {0, MIN, MIN}};
        for (int[] c : unknown) {
            due.is("cellAt unknown", x.cellAt(c[0], c[1], c[2], 0), UNKNOWN);
            due.is("cellAt unknown and outside", x.cellAt(c[0], c[1], c[2], -1), UNKNOWN);
        }
        for (int what : new int[] {-1, 4, MIN, MAX}) {
            due.is("cellAt what " + what, x.cellAt(0, 0, 0, what), OUTSIDE);
        }
    }

    private static void promise5AreaAndFolded() {
        ShiftGrids x = new ShiftGrids();
        x.grid(NONE, 100, 200, 10, 3, 2);
        due.is("area of a square", x.cellAt(0, 0, 0, 3), 2 * 640 * 640);
        due.is("not folded", x.cellAt(0, 1, 0, 2), 0);
        x.fill(0, 999, -999);
        due.is("area of a square moved", x.cellAt(0, 1, 0, 3), 2 * 640 * 640);
        x.fill(0, 0, 0);
        // The corner of both cells goes along the row: one is larger by what the other loses.
        x.node(0, 1, 0, 100, 0);
        due.is("larger", x.cellAt(0, 0, 0, 3), 2 * 640 * 640 + 100 * 640);
        due.is("smaller", x.cellAt(0, 1, 0, 3), 2 * 640 * 640 - 100 * 640);
        x.node(0, 1, 0, 640, 0);
        due.is("on its neighbour: folded", x.cellAt(0, 1, 0, 2), 1);
        x.node(0, 1, 0, 639, 0);
        due.is("just short of it", x.cellAt(0, 1, 0, 2), 0);
        x.node(0, 1, 0, 0, 0);
        // The corner of the last node, on the line between its neighbours: that sum is 0.
        x.node(0, 2, 1, -320, -320);
        due.is("on the line", x.cellAt(0, 1, 0, 2), 1);
        due.is("area on the line", x.cellAt(0, 1, 0, 3), 640 * 640);
        x.node(0, 2, 1, -319, -320);
        due.is("this side of the line", x.cellAt(0, 1, 0, 2), 0);
        // Two corners over one another: the sum round all four is below 0.
        x.node(0, 1, 0, 0, 999);
        x.node(0, 2, 0, 0, 999);
        x.node(0, 2, 1, 0, 0);
        due.is("folded over", x.cellAt(0, 1, 0, 2), 1);
        due.is("area below 0", x.cellAt(0, 1, 0, 3), -2 * 640 * 359);
        eachCornerDented();
        thinCell();
        // Far from 0 the products go beyond an int.
        ShiftGrids far = new ShiftGrids();
        far.grid(NONE, 936, 936, 64, 2, 2);
        due.is("far area", far.cellAt(0, 0, 0, 3), 2L * 4096 * 4096);
        due.is("far folded", far.cellAt(0, 0, 0, 2), 0);
    }

    /** One corner alone on the line between its neighbours, or one place this side of it. */
    private static void eachCornerDented() {
        int[][] corners = {{0, 0, 32, 32}, {1, 0, -32, 32}, {1, 1, -32, -32}, {0, 1, 32, -32}};
        for (int[] corner : corners) {
            ShiftGrids x = new ShiftGrids();
            x.grid(NONE, 7, 9, 1, 2, 2);
            x.node(0, corner[0], corner[1], corner[2], corner[3]);
            due.is("dented at " + corner[0] + ", " + corner[1], x.cellAt(0, 0, 0, 2), 1);
            due.is("its area", x.cellAt(0, 0, 0, 3), 64 * 64);
            x.node(0, corner[0], corner[1], corner[2], corner[3] - Integer.signum(corner[3]));
            due.is("this side of it", x.cellAt(0, 0, 0, 2), 0);
            due.is("its area", x.cellAt(0, 0, 0, 3), 64 * 64 + 64);
            x.node(0, corner[0], corner[1], corner[2], corner[3] + Integer.signum(corner[3]));
            due.is("beyond it", x.cellAt(0, 0, 0, 2), 1);
        }
    }

    /** 0, 0; 64, 1; 127, 2; 63, 1: at each corner the sum is 1, the least that is not folded. */
    private static void thinCell() {
        ShiftGrids x = new ShiftGrids();
        x.grid(NONE, 0, 0, 1, 2, 2);
        x.node(0, 1, 0, 0, 1);
        x.node(0, 1, 1, 63, -62);
        x.node(0, 0, 1, 63, -63);
        due.is("thin", x.cellAt(0, 0, 0, 2), 0);
        due.is("its area", x.cellAt(0, 0, 0, 3), 2);
        due.is("told(4)", x.told(4), 0);
    }

    private static void promise6Which() {
        ShiftGrids x = new ShiftGrids();
        x.grid(NONE, 0, 0, 64, 2, 2);
        x.grid(NONE, 64, 0, 32, 3, 3);
        x.grid(1, 64, 0, 16, 3, 3);
        x.grid(0, 48, 48, 8, 3, 3);
        x.grid(2, 64, 0, 4, 2, 2);
        due.is("first of two on a border", x.which(4096, 0), 0);
        due.is("the child of the first, not of the second", x.which(4096, 3100), 3);
        due.is("corner of the child", x.which(48 * 64, 48 * 64), 3);
        due.is("just ahead of it", x.which(48 * 64 - 1, 48 * 64), 0);
        due.is("just above it", x.which(48 * 64, 48 * 64 - 1), 0);
        due.is("second level", x.which(4097 + 4 * 64, 0), 2);
        due.is("third level", x.which(4096 + 4 * 64, 4 * 64), 4);
        due.is("below it", x.which(4096 + 4 * 64, 4 * 64 + 1), 2);
        due.is("end of the second level", x.which(96 * 64, 32 * 64), 2);
        due.is("behind it", x.which(96 * 64 + 1, 32 * 64), 1);
        due.is("last corner", x.which(128 * 64, 64 * 64), 1);
        due.is("beyond in x", x.which(128 * 64 + 1, 64 * 64), NONE);
        due.is("beyond in y", x.which(128 * 64, 64 * 64 + 1), NONE);
        due.is("last place", x.which(64000, 64000), NONE);
        int[][] outside = {{-1, 0}, {0, -1}, {64001, 0}, {0, 64001}, {MIN, MIN}, {MAX, MAX}};
        for (int[] p : outside) {
            due.is("which outside", x.which(p[0], p[1]), OUTSIDE);
        }
        // As the first goes, the places on the border belong to the next one.
        x.drop(3);
        x.drop(0);
        due.is("border", x.which(4096, 3100), 0);
        due.is("levels have a number less", x.which(4096 + 4 * 64, 4 * 64), 2);
        due.is("free now", x.which(4095, 0), NONE);
    }

    /** One cell of 64 by 64 places with 0, 64, 128, 256 in x and 1, 2, 3, 5 in y. */
    private static ShiftGrids oneCell() {
        ShiftGrids x = new ShiftGrids();
        x.grid(NONE, 10, 20, 1, 2, 2);
        x.node(0, 0, 0, 0, 1);
        x.node(0, 1, 0, 64, 2);
        x.node(0, 0, 1, 128, 3);
        x.node(0, 1, 1, 256, 5);
        return x;
    }

    private static void promise7MovedByRule0() {
        ShiftGrids x = oneCell();
        due.place(x, 640, 1280, 0, 640, 1281);
        due.place(x, 704, 1280, 0, 768, 1282);
        due.place(x, 640, 1344, 0, 768, 1347);
        due.place(x, 704, 1344, 0, 960, 1349);
        // 217600 by 4096, and 1 54 44, 2 10 44, 3 54 20, 5 10 20 (7496) by 4096.
        due.place(x, 650, 1300, 0, 650 + 53, 1300 + 2);
        due.place(x, 705, 1300, NONE, 705, 1300);
    }

    /** Cells behind the first ones, of a grid that does not begin at 0, with another number of columns than of rows. */
    private static void promise7MovedInLaterCells() {
        ShiftGrids x = new ShiftGrids();
        x.grid(NONE, 30, 50, 2, 5, 4);
        for (int r = 0; r < 4; r++) {
            for (int c = 0; c < 5; c++) {
                x.node(0, c, r, 10 * c, 20 * r);
            }
        }
        for (int rule = 0; rule <= 2; rule += 2) {
            x.rule(rule);
            // A quarter of a step beyond c and r is a quarter of the way to the next offset: 2.5 and 5.
            for (int r = 0; r < 3; r++) {
                for (int c = 0; c < 4; c++) {
                    int placeX = (30 + 2 * c) * 64 + 32;
                    int placeY = (50 + 2 * r) * 64 + 32;
                    due.place(x, placeX, placeY, 0, placeX + 10 * c + 3, placeY + 20 * r + 5);
                }
            }
            due.place(x, 38 * 64, 56 * 64, 0, 38 * 64 + 40, 56 * 64 + 60);
            due.place(x, 34 * 64, 54 * 64, 0, 34 * 64 + 20, 54 * 64 + 40);
        }
        x.rule(1);
        due.place(x, 34 * 64 + 63, 54 * 64 + 64, 0, 34 * 64 + 63 + 20, 54 * 64 + 64 + 60);
        due.place(x, 34 * 64 - 64, 54 * 64 - 65, 0, 34 * 64 - 64 + 20, 54 * 64 - 65 + 20);
    }

    private static void promise7MovedByRule1() {
        ShiftGrids x = oneCell();
        x.rule(1);
        due.place(x, 640 + 31, 1280 + 31, 0, 640 + 31, 1280 + 31 + 1);
        due.place(x, 640 + 32, 1280 + 31, 0, 640 + 32 + 64, 1280 + 31 + 2);
        due.place(x, 640 + 31, 1280 + 32, 0, 640 + 31 + 128, 1280 + 32 + 3);
        due.place(x, 640 + 32, 1280 + 32, 0, 640 + 32 + 256, 1280 + 32 + 5);
        due.place(x, 704, 1344, 0, 704 + 256, 1344 + 5);
    }

    private static void promise7MovedByRule2() {
        ShiftGrids x = oneCell();
        x.rule(2);
        // u 10, v 20: 128 10 and 128 20, by 64; in y 64 and 2 10 and 2 20 (124), by 64.
        due.place(x, 650, 1300, 0, 650 + 60, 1300 + 2);
        // u 20, v 10: 64 20 and 192 10, by 64; in y 64 and 1 20 and 3 10 (114), by 64.
        due.place(x, 660, 1290, 0, 660 + 50, 1290 + 2);
        due.place(x, 650, 1290, 0, 650 + 40, 1290 + 2);
        due.place(x, 640, 1280, 0, 640, 1281);
        due.place(x, 704, 1280, 0, 768, 1282);
        due.place(x, 640, 1344, 0, 768, 1347);
        due.place(x, 704, 1344, 0, 960, 1349);
    }

    private static void promise7MovedRounded() {
        int[][] halves = {{1, 1}, {-1, 0}, {3, 2}, {-3, -1}, {999, 500}, {-999, -499}, {2, 1}, {-2, -1}};
        for (int[] half : halves) {
            ShiftGrids x = new ShiftGrids();
            x.grid(NONE, 0, 0, 1, 3, 2);
            x.node(0, 1, 0, half[0], -half[0]);
            for (int rule = 0; rule <= 2; rule += 2) {
                x.rule(rule);
                due.is("half of " + half[0], x.moved(32, 0, 0), PLUS + 32 + half[1]);
                due.is("half of it behind", x.moved(96, 0, 0), PLUS + 96 + half[1]);
                due.is("half of it in y", x.moved(32, 0, 1), PLUS + (half[0] % 2 == 0 ? -half[1] : 1 - half[1]));
            }
        }
        // Below 0, and beyond 64000; the greatest products.
        ShiftGrids x = new ShiftGrids();
        x.grid(NONE, 0, 0, 64, 2, 2);
        x.grid(NONE, 936, 936, 64, 2, 2);
        x.fill(0, -999, -999);
        x.fill(1, 999, 999);
        for (int rule = 0; rule <= 2; rule++) {
            x.rule(rule);
            due.place(x, 0, 0, 0, -999, -999);
            due.place(x, 2000, 3000, 0, 1001, 2001);
            due.place(x, 64000, 64000, 1, 64999, 64999);
            due.place(x, 62001, 62002, 1, 63000, 63001);
        }
    }

    private static void promise7Bounds() {
        ShiftGrids x = oneCell();
        int[][] outside = {{-1, 0, 0}, {0, -1, 1}, {64001, 0, 0}, {0, 64001, 1}, {0, 0, -1}, {0, 0, 2}, {MIN, 0, 0}, {0, MAX, 0}, {0, 0, MAX}};
        for (int[] p : outside) {
            due.is("moved outside", x.moved(p[0], p[1], p[2]), OUTSIDE);
        }
        due.place(x, 64000, 0, NONE, 64000, 0);
        due.place(x, 0, 64000, NONE, 0, 64000);
    }

    private static void promise8Back() {
        ShiftGrids x = new ShiftGrids();
        x.grid(NONE, 0, 0, 64, 2, 2);
        x.fill(0, 10, -20);
        due.back(x, 1000, 1000, 0, 2, 990, 1020);
        due.back(x, 5, 1000, 2, 1, -5, 1020);
        due.back(x, 4100, 1000, 0, 1, 4100, 1000);
        due.back(x, 10, 1000, 0, 2, 0, 1020);
        x.fill(0, 0, -20);
        due.back(x, 1000, 1000, 0, 2, 1000, 1020);
        x.fill(0, 10, 0);
        due.back(x, 1000, 1000, 0, 2, 990, 1000);
        x.fill(0, -10, 0);
        due.back(x, 4090, 1000, 1, 2, 4090, 1000);
        due.back(x, 4086, 1000, 0, 2, 4096, 1000);
        due.back(x, -1, 0, 2, 0, -1, 0);
        due.back(x, 0, -1, 2, 0, 0, -1);
        due.back(x, 64001, 64000, 2, 0, 64001, 64000);
        due.back(x, 64000, 64001, 2, 0, 64000, 64001);
        due.back(x, 64000, 64000, 0, 1, 64000, 64000);
        due.back(x, -10000, 80000, 2, 0, -10000, 80000);
        ShiftGrids end = new ShiftGrids();
        end.grid(NONE, 936, 936, 64, 2, 2);
        end.fill(0, -1, 0);
        due.back(end, 64000, 64000, 2, 1, 64001, 64000);
        end.fill(0, 0, -1);
        due.back(end, 64000, 64000, 2, 1, 64000, 64001);
        end.fill(0, 0, 0);
        due.back(end, 64000, 64000, 0, 1, 64000, 64000);
        int[][] outside = {{-10001, 0, 0}, {0, -10001, 0}, {80001, 0, 0}, {0, 80001, 0}, {0, 0, -1}, {0, 0, 4}, {MIN, 0, 0}, {0, MAX, 0}, {0, 0, MIN}};
        for (int[] p : outside) {
            due.is("back outside", x.back(p[0], p[1], p[2]), OUTSIDE);
        }
    }

    /**
     * On the first cell the offset falls by 1 with each place, so each guess is 1 beyond the one ahead of it;
     * on the second cell it stays, and the guess is found there two rounds later.
     */
    private static void promise8BackAtRound60() {
        due.back(creeping(5), 646, 660, 0, 60, 705, 660);
        due.back(creeping(6), 647, 660, 0, 59, 705, 660);
        due.back(creeping(4), 645, 660, 3, 60, 705, 660);
        due.back(creeping(-30), 611 + 1, 660, 0, 1, 612, 660);
        due.back(creeping(2), 643, 660, 3, 60, 703, 660);
    }

    private static ShiftGrids creeping(int dx) {
        ShiftGrids x = new ShiftGrids();
        x.grid(NONE, 10, 10, 1, 3, 2);
        x.fill(0, dx - 64, 0);
        x.node(0, 0, 0, dx, 0);
        x.node(0, 0, 1, dx, 0);
        return x;
    }
}
