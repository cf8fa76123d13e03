/** Promises 9 to 16: grid, node, fill, fit, drop, rule, drift, undo. */
public final class DeedsTest {
    private static final int NONE = -1, UNKNOWN = -1000000001, OUTSIDE = -1000000002, NOT = -1000000003, FULL = -1000000004;
    private static final int PLUS = 1000000;
    private static final int MIN = Integer.MIN_VALUE, MAX = Integer.MAX_VALUE;
    private static final Due due = new Due("DeedsTest");

    public static void main(String[] args) {
        promise9Bounds();
        promise9Ground();
        promise9Full();
        promise9ComesWithoutOffsets();
        promise10Node();
        promise11Fill();
        promise12Fit();
        promise13Drop();
        promise14Rule();
        promise15Drift();
        promise15DriftBounds();
        promise16UndoEachDeed();
        promise16UndoSixteen();
        promise16UndoDrop();
        promise16WhatIsRefusedIsNoDeed();
        due.end();
    }

    private static void promise9Bounds() {
        ShiftGrids x = new ShiftGrids();
        for (int parent : new int[] {0, -2, 6, MIN, MAX}) {
            due.is("parent " + parent, x.grid(parent, 0, 0, 1, 2, 2), UNKNOWN);
            due.is("parent " + parent + " and outside", x.grid(parent, -1, 0, 1, 2, 2), UNKNOWN);
        }
        int[][] outside = {
            {-1, 0, 1, 2, 2}, {1001, 0, 1, 2, 2}, {0, -1, 1, 2, 2}, {0, 1001, 1, 2, 2}, {0, 0, 0, 2, 2}, {0, 0, 65, 2, 2},
            {0, 0, 1, 1, 2}, {0, 0, 1, 6, 2}, {0, 0, 1, 2, 1}, {0, 0, 1, 2, 6}, {1000, 0, 1, 2, 2}, {0, 1000, 1, 2, 2},
            {937, 0, 64, 2, 2}, {0, 937, 64, 2, 2}, {745, 0, 64, 5, 2}, {0, 745, 64, 2, 5},
            {MIN, 0, 1, 2, 2}, {0, MAX, 1, 2, 2}, {0, 0, MAX, 2, 2}, {0, 0, 1, MAX, 2}, {0, 0, 1, 2, MIN}, {MAX, MAX, MAX, MAX, MAX},
        };
        for (int[] o : outside) {
            due.is("grid outside", x.grid(NONE, o[0], o[1], o[2], o[3], o[4]), OUTSIDE);
        }
        due.told("nothing changed", x, 0, 0, 0, 0, 0, 0, 0, NONE, 0, NONE, 0, 0);
        due.is("last corner", x.grid(NONE, 744, 936, 64, 5, 2), 0);
        due.is("least", x.grid(NONE, 0, 0, 1, 2, 2), 1);
        due.is("outside, though it may not be there", x.grid(1, 999, 0, 64, 2, 2), OUTSIDE);
    }

    private static void promise9Ground() {
        ShiftGrids x = new ShiftGrids();
        due.is("grid 0", x.grid(NONE, 100, 100, 20, 3, 3), 0);
        due.is("the same STEP", x.grid(0, 100, 100, 20, 2, 2), NOT);
        due.is("a greater STEP", x.grid(0, 100, 100, 21, 2, 2), NOT);
        due.is("begins left of it", x.grid(0, 99, 100, 19, 2, 2), NOT);
        due.is("begins above it", x.grid(0, 100, 99, 19, 2, 2), NOT);
        due.is("ends right of it", x.grid(0, 122, 100, 19, 2, 2), NOT);
        due.is("ends below it", x.grid(0, 100, 122, 19, 2, 2), NOT);
        due.is("just at its end", x.grid(0, 121, 121, 19, 2, 2), 1);
        due.is("over its first corner", x.grid(0, 111, 111, 11, 2, 2), NOT);
        due.is("at its first corner", x.grid(0, 110, 110, 11, 2, 2), 2);
        due.is("beside it", x.grid(0, 121, 100, 3, 2, 5), 3);
        due.is("inside it, of the same PARENT", x.grid(0, 130, 130, 1, 2, 2), NOT);
        due.is("inside it, of it", x.grid(1, 130, 130, 1, 2, 2), 4);
        due.is("the same ground, of it", x.grid(4, 130, 130, 1, 2, 2), NOT);
        due.is("over one without PARENT", x.grid(NONE, 139, 139, 64, 2, 2), NOT);
        due.is("round it", x.grid(NONE, 90, 90, 64, 2, 2), NOT);
        due.is("across it", x.grid(NONE, 90, 110, 30, 5, 2), NOT);
        due.is("beside it, with a border", x.grid(NONE, 140, 100, 64, 2, 2), 5);
        due.is("told(0)", x.told(0), 6);
        due.is("told(10)", x.told(10), 6);
        ShiftGrids whole = new ShiftGrids();
        whole.grid(NONE, 5, 5, 2, 3, 3);
        due.is("the whole ground of the PARENT", whole.grid(0, 5, 5, 1, 5, 5), 1);
        due.is("as the finer one's", whole.grid(1, 5, 5, 1, 2, 2), NOT);
        ShiftGrids apart = new ShiftGrids();
        apart.grid(NONE, 0, 0, 10, 2, 2);
        due.is("above one another", apart.grid(NONE, 0, 10, 10, 2, 2), 1);
        due.is("of another PARENT", apart.grid(0, 0, 9, 1, 2, 2), 2);
        ShiftGrids around = new ShiftGrids();
        due.is("in the middle", around.grid(NONE, 10, 10, 10, 2, 2), 0);
        due.is("left of it, over it", around.grid(NONE, 1, 10, 10, 2, 2), NOT);
        due.is("left of it", around.grid(NONE, 0, 10, 10, 2, 2), 1);
        due.is("above it, over it", around.grid(NONE, 10, 1, 10, 2, 2), NOT);
        due.is("above it", around.grid(NONE, 10, 0, 10, 2, 2), 2);
        due.is("right of it, over it", around.grid(NONE, 19, 10, 10, 2, 2), NOT);
        due.is("right of it", around.grid(NONE, 20, 10, 10, 2, 2), 3);
        due.is("below it, over it", around.grid(NONE, 10, 19, 10, 2, 2), NOT);
        due.is("below it", around.grid(NONE, 10, 20, 10, 2, 2), 4);
        due.is("at its corner", around.grid(NONE, 20, 20, 10, 2, 2), 5);
        due.is("of the other PARENT", apart.grid(1, 0, 10, 1, 2, 2), 3);
        due.is("no part of the other's ground", apart.grid(1, 0, 9, 1, 2, 2), NOT);
    }

    private static void promise9Full() {
        ShiftGrids x = new ShiftGrids();
        for (int g = 0; g < 6; g++) {
            due.is("grid " + g, x.grid(NONE, 10 * g, 0, 10, 2, 2), g);
        }
        due.is("full", x.grid(NONE, 60, 0, 10, 2, 2), FULL);
        due.is("full, of a PARENT", x.grid(0, 0, 0, 1, 2, 2), FULL);
        due.is("not, ahead of full", x.grid(NONE, 55, 0, 10, 2, 2), NOT);
        due.is("outside, ahead of full", x.grid(NONE, 60, 0, 0, 2, 2), OUTSIDE);
        due.is("unknown, ahead of full", x.grid(6, 60, 0, 10, 2, 2), UNKNOWN);
        due.is("told(0)", x.told(0), 6);
        due.is("told(10)", x.told(10), 6);
        due.is("drop", x.drop(2), 5);
        due.is("room again", x.grid(NONE, 60, 0, 10, 2, 2), 5);
        due.is("it is there", x.gridAt(5, 1), 60);
        due.is("full again", x.grid(NONE, 80, 0, 10, 2, 2), FULL);
    }

    private static void promise9ComesWithoutOffsets() {
        ShiftGrids x = new ShiftGrids();
        x.grid(NONE, 0, 0, 1, 5, 5);
        x.grid(NONE, 10, 0, 1, 5, 5);
        x.fill(0, 7, 7);
        x.fill(1, 8, 8);
        x.drop(0);
        due.is("told(2)", x.told(2), 25);
        x.grid(NONE, 0, 0, 1, 5, 5);
        due.is("told(2)", x.told(2), 25);
        due.is("dx", x.nodeAt(1, 4, 4, 0), PLUS);
        due.is("dy", x.nodeAt(1, 0, 0, 1), PLUS);
        due.is("the other's dx", x.nodeAt(0, 4, 4, 0), PLUS + 8);
        // A small one where a large one went.
        ShiftGrids small = new ShiftGrids();
        small.grid(NONE, 0, 0, 1, 5, 5);
        small.fill(0, 7, 7);
        small.drop(0);
        small.grid(NONE, 0, 0, 1, 2, 2);
        due.told("the small one", small, 1, 0, 0, 0, 0, 0, 0, NONE);
        due.is("fill", small.fill(0, 7, 7), 4);
        due.told("the small one", small, 1, 0, 4, 0, 0, 0, 0, NONE);
    }

    private static void promise10Node() {
        ShiftGrids x = new ShiftGrids();
        x.grid(NONE, 0, 0, 1, 5, 3);
        due.is("another dx", x.node(0, 4, 2, 1, 0), 1);
        due.is("another dy", x.node(0, 4, 2, 1, 1), 1);
        due.is("the same", x.node(0, 4, 2, 1, 1), 0);
        due.is("to 0", x.node(0, 4, 2, 0, 0), 1);
        due.is("0 as it was", x.node(0, 0, 0, 0, 0), 0);
        due.is("least and last", x.node(0, 1, 2, -999, 999), 1);
        due.is("dx", x.nodeAt(0, 1, 2, 0), PLUS - 999);
        due.is("dy", x.nodeAt(0, 1, 2, 1), PLUS + 999);
        due.is("its neighbour", x.nodeAt(0, 2, 1, 0), PLUS);
        due.is("only this one", x.told(2), 1);
        int[][] unknown = {{-1, 0, 0}, {1, 0, 0}, {0, 5, 0}, {0, 0, 3}, {0, -1, 0}, {0, 0, -1}, {MIN, 0, 0}, {0, MAX, 0}, {0, 0, MAX}};
        for (int[] u : unknown) {
            due.is("unknown", x.node(u[0], u[1], u[2], 1, 1), UNKNOWN);
            due.is("unknown and outside", x.node(u[0], u[1], u[2], 1000, 1), UNKNOWN);
        }
        int[][] outside = {{1000, 0}, {-1000, 0}, {0, 1000}, {0, -1000}, {MIN, 0}, {0, MAX}};
        for (int[] o : outside) {
            due.is("outside", x.node(0, 0, 0, o[0], o[1]), OUTSIDE);
        }
        due.is("only this one", x.told(2), 1);
        due.is("told(10)", x.told(10), 7);
    }

    private static void promise11Fill() {
        ShiftGrids x = new ShiftGrids();
        x.grid(NONE, 0, 0, 1, 4, 3);
        x.grid(NONE, 10, 0, 1, 2, 2);
        due.is("all are others", x.fill(0, 999, -999), 12);
        due.is("none is another", x.fill(0, 999, -999), 0);
        x.node(0, 3, 2, 999, 0);
        x.node(0, 0, 0, 0, -999);
        due.is("two are others", x.fill(0, 999, -999), 2);
        due.is("the other grid stays", x.nodeAt(1, 0, 0, 0), PLUS);
        due.is("told(2)", x.told(2), 12);
        due.is("0 as it was", x.fill(1, 0, 0), 0);
        due.is("unknown", x.fill(2, 0, 0), UNKNOWN);
        due.is("unknown and outside", x.fill(-1, 1000, 0), UNKNOWN);
        int[][] outside = {{1000, 0}, {-1000, 0}, {0, 1000}, {0, -1000}, {MAX, MIN}};
        for (int[] o : outside) {
            due.is("outside", x.fill(0, o[0], o[1]), OUTSIDE);
        }
        due.is("told(10)", x.told(10), 8);
    }

    private static void promise12Fit() {
        for (int rule = 0; rule <= 2; rule++) {
            ShiftGrids x = new ShiftGrids();
            x.grid(NONE, 0, 0, 10, 3, 3);
            x.grid(0, 5, 5, 5, 3, 3);
            x.rule(rule);
            x.node(0, 1, 1, 101, -41);
            x.fill(1, 3, 3);
            x.node(1, 1, 0, rule == 1 ? 101 : 51, rule == 1 ? -41 : -20);
            due.is("gaps", x.gridAt(1, 8), 7);
            due.is("fit", x.fit(1), 7);
            due.is("no gaps", x.gridAt(1, 8), 0);
            due.is("none again", x.fit(1), 0);
            due.is("inside it stays", x.nodeAt(1, 1, 1, 0), PLUS + 3);
            due.is("inside it stays", x.nodeAt(1, 1, 1, 1), PLUS + 3);
            // The node at 5, 5 is in the middle of a cell whose last node alone has an offset: a quarter, nearest, half.
            due.is("dx by rule " + rule, x.nodeAt(1, 0, 0, 0), PLUS + (rule == 0 ? 25 : rule == 1 ? 101 : 51));
            due.is("dy by rule " + rule, x.nodeAt(1, 0, 0, 1), PLUS + (rule == 0 ? -10 : rule == 1 ? -41 : -20));
            due.is("told(10)", x.told(10), 8);
        }
        ShiftGrids x = new ShiftGrids();
        x.grid(NONE, 0, 0, 10, 3, 3);
        x.grid(0, 0, 0, 5, 3, 3);
        x.grid(1, 0, 0, 2, 2, 2);
        x.fill(0, 50, 50);
        due.is("what its own PARENT has, not the one above that", x.fit(2), 0);
        due.is("fit 1", x.fit(1), 8);
        due.is("fit 2", x.fit(2), 4);
        due.is("no PARENT", x.fit(0), NOT);
        // A border of sixteen nodes, nine inside it.
        ShiftGrids large = new ShiftGrids();
        large.grid(NONE, 0, 0, 8, 2, 2);
        large.grid(0, 0, 0, 2, 5, 5);
        large.node(0, 0, 0, 32, 0);
        large.node(0, 1, 0, 64, 0);
        large.node(0, 0, 1, 96, 0);
        large.node(0, 1, 1, 128, 0);
        due.is("fit", large.fit(1), 16);
        due.is("no gaps", large.gridAt(1, 8), 0);
        for (int r = 0; r < 5; r++) {
            for (int c = 0; c < 5; c++) {
                boolean inside = c > 0 && c < 4 && r > 0 && r < 4;
                due.is("dx of " + c + ", " + r, large.nodeAt(1, c, r, 0), PLUS + (inside ? 0 : 32 + 8 * c + 16 * r));
            }
        }
        for (int g : new int[] {-1, 3, MIN, MAX}) {
            due.is("unknown", x.fit(g), UNKNOWN);
        }
        due.is("told(10)", x.told(10), 7);
    }

    private static void promise13Drop() {
        ShiftGrids x = new ShiftGrids();
        x.grid(NONE, 0, 0, 20, 2, 2);
        x.grid(NONE, 20, 0, 20, 2, 2);
        x.grid(0, 0, 0, 10, 2, 2);
        x.grid(1, 20, 0, 10, 2, 2);
        x.grid(3, 20, 0, 5, 2, 2);
        x.fill(2, 2, 2);
        x.fill(4, 4, 4);
        due.is("a PARENT", x.drop(0), NOT);
        due.is("a PARENT that has one", x.drop(3), NOT);
        for (int g : new int[] {-1, 5, MIN, MAX}) {
            due.is("unknown", x.drop(g), UNKNOWN);
        }
        due.is("all are there", x.told(0), 5);
        due.is("drop 2", x.drop(2), 4);
        due.is("PARENT of what was 3", x.gridAt(2, 0), 1);
        due.is("PARENT of what was 4", x.gridAt(3, 0), 2);
        due.is("its offset", x.nodeAt(3, 1, 1, 0), PLUS + 4);
        due.is("no PARENT now", x.drop(0), 3);
        due.is("PARENT of what was 1", x.gridAt(0, 0), NONE);
        due.is("PARENT of what was 3", x.gridAt(1, 0), 0);
        due.is("PARENT of what was 4", x.gridAt(2, 0), 1);
        due.is("parents above", x.gridAt(2, 7), 2);
        due.is("which", x.which(20 * 64, 0), 2);
        due.is("drop 2", x.drop(2), 2);
        due.is("drop 1", x.drop(1), 1);
        due.is("drop 0", x.drop(0), 0);
        due.is("none is left", x.drop(0), UNKNOWN);
        due.is("told(10)", x.told(10), 12);
    }

    private static void promise14Rule() {
        ShiftGrids x = new ShiftGrids();
        due.is("0 at first", x.rule(2), 0);
        due.is("2", x.rule(1), 2);
        due.is("1", x.rule(1), 1);
        for (int v : new int[] {-1, 3, MIN, MAX}) {
            due.is("outside", x.rule(v), OUTSIDE);
        }
        due.is("1 still", x.rule(0), 1);
        due.is("told(1)", x.told(1), 0);
        due.is("told(10)", x.told(10), 4);
    }

    /** The draws by the document's words, in numbers that have no end. */
    private static int draw(java.math.BigInteger[] seed, int n) {
        java.math.BigInteger two = java.math.BigInteger.TWO;
        seed[0] = seed[0].multiply(java.math.BigInteger.valueOf(1103515245)).add(java.math.BigInteger.valueOf(12345)).mod(two.pow(31));
        return seed[0].divide(two.pow(16)).mod(java.math.BigInteger.valueOf(n)).intValue();
    }

    private static void promise15Drift() {
        for (int first : new int[] {0, 1, 3, 65536, 2147483647, 1234567890}) {
            ShiftGrids x = new ShiftGrids();
            x.grid(NONE, 0, 0, 10, 5, 2);
            x.grid(NONE, 0, 10, 10, 3, 4);
            x.grid(NONE, 0, 40, 10, 2, 5);
            x.seed(first);
            java.math.BigInteger[] seed = {java.math.BigInteger.valueOf(first)};
            int[] columns = {5, 3, 2};
            int[] rows = {2, 4, 5};
            java.util.Set<Integer> shifted = new java.util.HashSet<>();
            for (int time = 0; time < 12; time++) {
                int g = draw(seed, 3);
                int c = draw(seed, columns[g]);
                int r = draw(seed, rows[g]);
                int dx = draw(seed, 401) - 200;
                int dy = draw(seed, 401) - 200;
                shifted.add(g * 100 + c * 10 + r);
                due.is("drift of seed " + first, x.drift(1), shifted.size());
                due.is("dx", x.nodeAt(g, c, r, 0), PLUS + dx);
                due.is("dy", x.nodeAt(g, c, r, 1), PLUS + dy);
                due.is("the seed", x.told(11), seed[0].intValueExact());
            }
            ShiftGrids atOnce = new ShiftGrids();
            atOnce.grid(NONE, 0, 0, 10, 5, 2);
            atOnce.grid(NONE, 0, 10, 10, 3, 4);
            atOnce.grid(NONE, 0, 40, 10, 2, 5);
            atOnce.seed(first);
            due.is("twelve at once", atOnce.drift(12), shifted.size());
            due.is("the seed", atOnce.told(11), seed[0].intValueExact());
            due.is("each time is a deed", atOnce.told(10), 15);
        }
        // By hand, of the seed 0: 12345, 1406932606, 654583775, 1449466924, 229283573.
        ShiftGrids x = new ShiftGrids();
        x.grid(NONE, 0, 0, 10, 5, 4);
        due.is("drift", x.drift(1), 1);
        due.is("dx", x.nodeAt(0, 21468 % 5, 9988 % 4, 0), PLUS + 22117 % 401 - 200);
        due.is("dy", x.nodeAt(0, 21468 % 5, 9988 % 4, 1), PLUS + 3498 % 401 - 200);
        due.is("the seed", x.told(11), 229283573);
    }

    private static void promise15DriftBounds() {
        ShiftGrids x = new ShiftGrids();
        due.is("no grids", x.drift(12), NOT);
        due.is("outside, ahead of not", x.drift(13), OUTSIDE);
        due.is("the seed stays", x.told(11), 0);
        x.grid(NONE, 0, 0, 1, 2, 2);
        for (int n : new int[] {0, -1, 13, MIN, MAX}) {
            due.is("outside", x.drift(n), OUTSIDE);
        }
        due.is("the seed stays", x.told(11), 0);
        due.is("told(10)", x.told(10), 1);
        x.drift(12);
        due.is("told(10)", x.told(10), 13);
    }

    private static void promise16UndoEachDeed() {
        ShiftGrids x = new ShiftGrids();
        x.grid(NONE, 0, 0, 10, 3, 3);
        x.grid(0, 0, 0, 5, 3, 3);
        x.node(0, 1, 1, 100, 0);
        x.fill(0, 50, 0);
        x.fit(1);
        x.rule(1);
        x.drop(1);
        x.drift(1);
        due.is("told(10)", x.told(10), 8);
        int seed = x.told(11);
        due.is("undo drift", x.undo(1), 7);
        due.is("the seed stays", x.told(11), seed);
        due.told("without drift", x, 1, 1, 9, 0, 0, 0, 0, NONE);
        due.is("undo drop", x.undo(1), 6);
        due.told("without drop", x, 2, 1, 17, 0, 0, 0, 0, NONE);
        due.is("undo rule", x.undo(1), 5);
        due.is("rule", x.told(1), 0);
        due.is("undo fit", x.undo(1), 4);
        due.told("without fit", x, 2, 0, 9, 0, 0, 8, 50, 1);
        due.is("undo fill", x.undo(1), 3);
        due.told("without fill", x, 2, 0, 1, 0, 0, 3, 100, 1);
        due.is("undo node", x.undo(1), 2);
        due.told("without node", x, 2, 0, 0, 0, 0, 0, 0, NONE);
        due.is("undo grid", x.undo(1), 1);
        due.is("one grid", x.told(0), 1);
        due.is("undo the first", x.undo(1), 0);
        due.is("no grid", x.told(0), 0);
        due.is("nothing to undo", x.undo(1), NOT);
        // A deed that changes nothing is one, too.
        x.grid(NONE, 0, 0, 10, 3, 3);
        x.node(0, 0, 0, 0, 0);
        x.fill(0, 0, 0);
        x.rule(0);
        due.is("told(10)", x.told(10), 4);
        due.is("undo three", x.undo(3), 1);
        due.is("one grid", x.told(0), 1);
    }

    private static void promise16UndoSixteen() {
        ShiftGrids x = new ShiftGrids();
        x.grid(NONE, 0, 0, 10, 2, 2);
        x.write(0, 0, 4);
        for (int dx = 1; dx <= 20; dx++) {
            x.node(0, 0, 0, dx, 0);
        }
        due.is("told(10)", x.told(10), 16);
        for (int n : new int[] {0, -1, 17, MIN, MAX}) {
            due.is("outside", x.undo(n), OUTSIDE);
        }
        due.is("undo 5", x.undo(5), 11);
        due.is("dx", x.nodeAt(0, 0, 0, 0), PLUS + 15);
        due.is("not so many", x.undo(12), NOT);
        due.is("nothing changed", x.nodeAt(0, 0, 0, 0), PLUS + 15);
        due.is("the book is judged now", x.told(9), 0);
        due.is("undo 11", x.undo(11), 0);
        due.is("dx", x.nodeAt(0, 0, 0, 0), PLUS + 4);
        due.is("the book stays", x.told(8), 1);
        due.is("the book is right now", x.told(9), NONE);
        for (int dx = 101; dx <= 116; dx++) {
            x.node(0, 0, 0, dx, 0);
        }
        due.is("sixteen at once", x.undo(16), 0);
        due.is("dx", x.nodeAt(0, 0, 0, 0), PLUS + 4);
        x.node(0, 0, 0, 1, 0);
        due.is("told(10)", x.told(10), 1);
        due.is("outside, ahead of not", x.undo(17), OUTSIDE);
        x.drift(12);
        x.drift(12);
        due.is("told(10)", x.told(10), 16);
        due.is("undo 16", x.undo(16), 0);
    }

    private static void promise16UndoDrop() {
        ShiftGrids x = new ShiftGrids();
        x.grid(NONE, 0, 0, 20, 2, 2);
        x.grid(NONE, 20, 0, 20, 2, 2);
        x.grid(1, 20, 0, 10, 3, 3);
        x.fill(0, 1, 1);
        x.fill(2, 3, 3);
        x.drop(0);
        x.grid(NONE, 0, 0, 5, 5, 5);
        x.fill(2, 9, 9);
        due.is("undo 3", x.undo(3), 5);
        due.is("grids", x.told(0), 3);
        due.is("grid 0", x.gridAt(0, 3), 20);
        due.is("its offset", x.nodeAt(0, 1, 1, 0), PLUS + 1);
        due.is("grid 1", x.gridAt(1, 1), 20);
        due.is("its offset", x.nodeAt(1, 1, 1, 0), PLUS);
        due.is("PARENT of grid 2", x.gridAt(2, 0), 1);
        due.is("its offset", x.nodeAt(2, 2, 2, 1), PLUS + 3);
        due.is("told(2)", x.told(2), 13);
        // All nodes of the largest grid come back, in the last of six, too.
        ShiftGrids large = new ShiftGrids();
        for (int g = 0; g < 6; g++) {
            large.grid(NONE, 10 * g, 0, 2, 5, 5);
            large.fill(g, g + 1, -g);
        }
        large.fill(5, 77, 77);
        large.fill(0, 88, 88);
        due.is("undo 2", large.undo(2), 12);
        for (int g = 0; g < 6; g++) {
            for (int i = 0; i < 25; i++) {
                due.is("dx", large.nodeAt(g, i % 5, i / 5, 0), PLUS + g + 1);
                due.is("dy", large.nodeAt(g, i % 5, i / 5, 1), PLUS - g);
            }
        }
    }

    private static void promise16WhatIsRefusedIsNoDeed() {
        ShiftGrids x = new ShiftGrids();
        x.grid(NONE, 0, 0, 20, 2, 2);
        x.grid(0, 0, 0, 10, 3, 3);
        x.grid(7, 0, 0, 1, 2, 2);
        x.grid(NONE, 0, 0, 1, 2, 2);
        x.grid(NONE, 0, 0, 0, 2, 2);
        x.node(0, 2, 0, 1, 1);
        x.node(0, 0, 0, 1000, 1);
        x.fill(2, 1, 1);
        x.fill(0, 1, 1000);
        x.fit(0);
        x.fit(2);
        x.drop(0);
        x.drop(2);
        x.rule(3);
        x.drift(0);
        x.undo(0);
        x.undo(3);
        x.write(-1, 0, 0);
        x.seed(-1);
        x.keep(2);
        x.goBack(0);
        x.goBack(-1);
        due.told("nothing changed", x, 2, 0, 0, 0, 0, 0, 0, NONE, 0, NONE, 2, 0);
    }
}
