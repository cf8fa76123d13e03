/**
 * Old places moved to new ones by grids of offsets, finer grids inside coarser ones.
 * What each call answers is told, promise by promise, in ../shared/DOC.md; words in capitals are its words.
 */
public final class ShiftGrids {
    public static final int NONE = -1, PLUS = 1000000, UNKNOWN = -1000000001, OUTSIDE = -1000000002, NOT = -1000000003, FULL = -1000000004;

    private static final int UNIT = 64;
    private static final int LAST_UNIT = 1000;
    private static final int LAST_PLACE = LAST_UNIT * UNIT;
    private static final int FIRST_NEW_PLACE = -10000;
    private static final int LAST_NEW_PLACE = 80000;
    private static final int MAX_GRIDS = 6;
    private static final int MAX_STEP = 64;
    private static final int MIN_NODES = 2;
    private static final int MAX_NODES = 5;
    private static final int MAX_OFFSET = 999;
    private static final int MAX_TIMES = 12;
    private static final int MAX_UNDONE = 16;
    private static final int MAX_ENTRIES = 20;
    private static final int MAX_ROUNDS = 60;

    private static final int ALONG_X = 0;
    private static final int ALONG_Y = 1;

    private static final int RULE_EVEN = 0;
    private static final int RULE_NEAREST = 1;
    private static final int RULE_TRIANGLES = 2;

    private static final int KIND_FOUND = 0;
    private static final int KIND_GOES_ROUND = 1;
    private static final int KIND_LEADS_OUT = 2;
    private static final int KIND_UNENDED = 3;

    private final Sheet sheet;
    private final History history;
    private final Image firstImage;
    private final Image secondImage;
    private final Book book;
    private final Draws draws;
    private final Search search;
    private final Cell cell;

    public ShiftGrids() {
        sheet = new Sheet();
        history = new History();
        firstImage = new Image();
        secondImage = new Image();
        book = new Book();
        draws = new Draws();
        search = new Search();
        cell = new Cell();
    }

    // ---- what is so

    public int told(int what) {
        switch (what) {
            case 0: return sheet.size();
            case 1: return sheet.ruleNow();
            case 2: return sheet.shiftedNodes();
            case 3: return unsureCellsOfAll();
            case 4: return foldedCellsOfAll();
            case 5: return gapsOfAll();
            case 6: return Border.greatestGap(sheet, sheet.at(firstWithGreatestGap()));
            case 7: return firstWithGreatestGap();
            case 8: return book.size();
            case 9: return book.firstWrong(sheet);
            case 10: return history.size();
            case 11: return draws.seedNow();
            default: return OUTSIDE;
        }
    }

    public int gridAt(int g, int what) {
        Grid grid = sheet.at(g);
        if (grid == null) {
            return UNKNOWN;
        }
        switch (what) {
            case 0: return grid.parent;
            case 1: return grid.left;
            case 2: return grid.top;
            case 3: return grid.step;
            case 4: return grid.columns;
            case 5: return grid.rows;
            case 6: return sheet.children(g);
            case 7: return sheet.parentsAbove(g);
            case 8: return Border.gaps(sheet, grid);
            case 9: return Border.greatestGap(sheet, grid);
            case 10: return foldedCells(grid);
            default: return OUTSIDE;
        }
    }

    public int nodeAt(int g, int c, int r, int what) {
        Grid grid = sheet.at(g);
        if (grid == null || !grid.hasNode(c, r)) {
            return UNKNOWN;
        }
        if (!isWithin(what, 0, 3)) {
            return OUTSIDE;
        }
        if (what <= 1) {
            return grid.offset(c, r, what == 0 ? ALONG_X : ALONG_Y) + PLUS;
        }
        Grid parent = sheet.at(grid.parent);
        if (parent == null) {
            return NONE;
        }
        return parent.offsetBy(sheet.ruleNow(), grid.columnPlace(c), grid.rowPlace(r), what == 2 ? ALONG_X : ALONG_Y) + PLUS;
    }

    public long cellAt(int g, int c, int r, int what) {
        Grid grid = sheet.at(g);
        if (grid == null || !grid.hasCell(c, r)) {
            return UNKNOWN;
        }
        cell.look(grid, c, r);
        switch (what) {
            case 0: return cell.steepness();
            case 1: return cell.isSure() ? 1 : 0;
            case 2: return cell.isFolded() ? 1 : 0;
            case 3: return cell.area();
            default: return OUTSIDE;
        }
    }

    public int which(int x, int y) {
        return isPlace(x, y) ? sheet.owner(x, y) : OUTSIDE;
    }

    public int moved(int x, int y, int what) {
        if (!isPlace(x, y) || !isWithin(what, 0, 1)) {
            return OUTSIDE;
        }
        if (what == 0) {
            return x + sheet.placeOffset(x, y, ALONG_X) + PLUS;
        }
        return y + sheet.placeOffset(x, y, ALONG_Y) + PLUS;
    }

    public int back(int x, int y, int what) {
        if (!isNewPlace(x, y) || !isWithin(what, 0, 3)) {
            return OUTSIDE;
        }
        search.run(sheet, x, y);
        switch (what) {
            case 0: return search.kindNow();
            case 1: return search.rounds();
            case 2: return search.lastX() + PLUS;
            default: return search.lastY() + PLUS;
        }
    }

    // ---- deeds

    public int grid(int parent, int x, int y, int step, int columns, int rows) {
        if (parent != NONE && sheet.at(parent) == null) {
            return UNKNOWN;
        }
        if (!isGridWithin(x, y, step, columns, rows)) {
            return OUTSIDE;
        }
        int right = x + (columns - 1) * step;
        int bottom = y + (rows - 1) * step;
        if (!sheet.fitsParent(parent, step, x, y, right, bottom) || !sheet.isApart(parent, x, y, right, bottom)) {
            return NOT;
        }
        if (sheet.size() >= MAX_GRIDS) {
            return FULL;
        }
        history.push(sheet);
        return sheet.add(parent, x, y, step, columns, rows);
    }

    public int node(int g, int c, int r, int dx, int dy) {
        Grid grid = sheet.at(g);
        if (grid == null || !grid.hasNode(c, r)) {
            return UNKNOWN;
        }
        if (!isOffset(dx, dy)) {
            return OUTSIDE;
        }
        history.push(sheet);
        return grid.setOffset(c, r, dx, dy) ? 1 : 0;
    }

    public int fill(int g, int dx, int dy) {
        Grid grid = sheet.at(g);
        if (grid == null) {
            return UNKNOWN;
        }
        if (!isOffset(dx, dy)) {
            return OUTSIDE;
        }
        history.push(sheet);
        return grid.setOffsets(dx, dy);
    }

    public int fit(int g) {
        Grid grid = sheet.at(g);
        if (grid == null) {
            return UNKNOWN;
        }
        if (grid.parent == NONE) {
            return NOT;
        }
        history.push(sheet);
        int had = Border.gaps(sheet, grid);
        Border.meet(sheet, grid);
        return had;
    }

    public int drop(int g) {
        if (sheet.at(g) == null) {
            return UNKNOWN;
        }
        if (sheet.children(g) > 0) {
            return NOT;
        }
        history.push(sheet);
        sheet.remove(g);
        return sheet.size();
    }

    public int rule(int v) {
        if (!isWithin(v, RULE_EVEN, RULE_TRIANGLES)) {
            return OUTSIDE;
        }
        history.push(sheet);
        int was = sheet.ruleNow();
        sheet.setRule(v);
        return was;
    }

    public int drift(int n) {
        if (!isWithin(n, 1, MAX_TIMES)) {
            return OUTSIDE;
        }
        if (sheet.size() == 0) {
            return NOT;
        }
        for (int time = 0; time < n; time++) {
            history.push(sheet);
            draws.shiftNode(sheet);
        }
        return sheet.shiftedNodes();
    }

    public int undo(int n) {
        if (!isWithin(n, 1, MAX_UNDONE)) {
            return OUTSIDE;
        }
        if (n > history.size()) {
            return NOT;
        }
        history.takeBack(sheet, n);
        return history.size();
    }

    // ---- the book

    public int write(int x, int y, int v) {
        if (!isPlace(x, y)) {
            return OUTSIDE;
        }
        return book.add(x, y, v) ? book.size() : FULL;
    }

    public int tear() {
        int had = book.size();
        book.clear();
        return had;
    }

    // ---- images

    public int seed(int v) {
        if (v < 0) {
            return OUTSIDE;
        }
        int was = draws.seedNow();
        draws.setSeed(v);
        return was;
    }

    public int keep(int i) {
        Image image = imageOf(i);
        if (image == null) {
            return UNKNOWN;
        }
        image.take(sheet, draws);
        history.clear();
        return 1;
    }

    public int goBack(int i) {
        Image image = imageOf(i);
        if (image == null) {
            return UNKNOWN;
        }
        if (!image.wasTaken()) {
            return NOT;
        }
        image.give(sheet, draws);
        history.clear();
        return 1;
    }

    private Image imageOf(int i) {
        if (i == 0) {
            return firstImage;
        }
        return i == 1 ? secondImage : null;
    }

    // ---- bounds

    private static boolean isWithin(int n, int first, int last) {
        return n >= first && n <= last;
    }

    private static boolean isPlace(int x, int y) {
        return isWithin(x, 0, LAST_PLACE) && isWithin(y, 0, LAST_PLACE);
    }

    private static boolean isNewPlace(int x, int y) {
        return isWithin(x, FIRST_NEW_PLACE, LAST_NEW_PLACE) && isWithin(y, FIRST_NEW_PLACE, LAST_NEW_PLACE);
    }

    private static boolean isOffset(int dx, int dy) {
        return isWithin(dx, -MAX_OFFSET, MAX_OFFSET) && isWithin(dy, -MAX_OFFSET, MAX_OFFSET);
    }

    private static boolean isGridWithin(int x, int y, int step, int columns, int rows) {
        // The sums come last: only of numbers within their bounds they can't wrap around.
        return isWithin(x, 0, LAST_UNIT) && isWithin(y, 0, LAST_UNIT) && isWithin(step, 1, MAX_STEP)
            && isWithin(columns, MIN_NODES, MAX_NODES) && isWithin(rows, MIN_NODES, MAX_NODES)
            && x + (columns - 1) * step <= LAST_UNIT && y + (rows - 1) * step <= LAST_UNIT;
    }

    // ---- sums over grids

    private int foldedCells(Grid grid) {
        if (grid == null) {
            return 0;
        }
        int n = 0;
        for (int r = 0; r < grid.rows - 1; r++) {
            for (int c = 0; c < grid.columns - 1; c++) {
                cell.look(grid, c, r);
                n += cell.isFolded() ? 1 : 0;
            }
        }
        return n;
    }

    private int unsureCells(Grid grid) {
        if (grid == null) {
            return 0;
        }
        int n = 0;
        for (int r = 0; r < grid.rows - 1; r++) {
            for (int c = 0; c < grid.columns - 1; c++) {
                cell.look(grid, c, r);
                n += cell.isSure() ? 0 : 1;
            }
        }
        return n;
    }

    private int foldedCellsOfAll() {
        int n = 0;
        for (int g = 0; g < sheet.size(); g++) {
            n += foldedCells(sheet.at(g));
        }
        return n;
    }

    private int unsureCellsOfAll() {
        int n = 0;
        for (int g = 0; g < sheet.size(); g++) {
            n += unsureCells(sheet.at(g));
        }
        return n;
    }

    private int gapsOfAll() {
        int n = 0;
        for (int g = 0; g < sheet.size(); g++) {
            n += Border.gaps(sheet, sheet.at(g));
        }
        return n;
    }

    private int firstWithGreatestGap() {
        int first = NONE;
        int greatest = 0;
        for (int g = 0; g < sheet.size(); g++) {
            int gap = Border.greatestGap(sheet, sheet.at(g));
            if (gap > greatest) {
                greatest = gap;
                first = g;
            }
        }
        return first;
    }

    /** A GRID: where it stands (in units), and the OFFSETS of its NODES. */
    private static final class Grid {
        private final int[] offsets = new int[2 * MAX_NODES * MAX_NODES];
        int parent;
        int left;
        int top;
        int step;
        int columns;
        int rows;

        void place(int newParent, int x, int y, int newStep, int newColumns, int newRows) {
            parent = newParent;
            left = x;
            top = y;
            step = newStep;
            columns = newColumns;
            rows = newRows;
        }

        void copyFrom(Grid other) {
            if (other != null) {
                place(other.parent, other.left, other.top, other.step, other.columns, other.rows);
                System.arraycopy(other.offsets, 0, offsets, 0, 2 * MAX_NODES * MAX_NODES);
            }
        }

        boolean hasNode(int c, int r) {
            return c >= 0 && c < columns && r >= 0 && r < rows;
        }

        boolean hasCell(int c, int r) {
            return c >= 0 && c < columns - 1 && r >= 0 && r < rows - 1;
        }

        boolean isOnBorder(int c, int r) {
            return c == 0 || c == columns - 1 || r == 0 || r == rows - 1;
        }

        int right() {
            return left + (columns - 1) * step;
        }

        int bottom() {
            return top + (rows - 1) * step;
        }

        /** How many 64ths a STEP is: D of the document. */
        int side() {
            return step * UNIT;
        }

        int columnPlace(int c) {
            return (left + c * step) * UNIT;
        }

        int rowPlace(int r) {
            return (top + r * step) * UNIT;
        }

        boolean isOnGround(int x, int y) {
            return x >= left * UNIT && x <= right() * UNIT && y >= top * UNIT && y <= bottom() * UNIT;
        }

        int offset(int c, int r, int axis) {
            int i = 2 * (r * MAX_NODES + c) + axis;
            return i >= 0 && i < offsets.length ? offsets[i] : 0;
        }

        /** Sets the OFFSET of a NODE; answers whether it was another one. */
        boolean setOffset(int c, int r, int dx, int dy) {
            int i = 2 * (r * MAX_NODES + c);
            if (i < 0 || i + 1 >= offsets.length) {
                return false;
            }
            boolean wasOther = offsets[i] != dx || offsets[i + 1] != dy;
            offsets[i] = dx;
            offsets[i + 1] = dy;
            return wasOther;
        }

        /** Sets the OFFSETS of all NODES; answers how many were others. */
        int setOffsets(int dx, int dy) {
            int others = 0;
            for (int r = 0; r < rows; r++) {
                for (int c = 0; c < columns; c++) {
                    others += setOffset(c, r, dx, dy) ? 1 : 0;
                }
            }
            return others;
        }

        int shiftedNodes() {
            int n = 0;
            for (int r = 0; r < rows; r++) {
                for (int c = 0; c < columns; c++) {
                    n += offset(c, r, ALONG_X) != 0 || offset(c, r, ALONG_Y) != 0 ? 1 : 0;
                }
            }
            return n;
        }

        /** The column or row of the CELL of a place that is so far beyond the first NODE; the last NODE begins none. */
        private static int cellAhead(int beyond, int side, int nodes) {
            return side > 0 ? Math.min(beyond / side, nodes - 2) : 0;
        }

        /** OFFSET of a place by this grid, on whose GROUND it is. */
        int offsetBy(int rule, int x, int y, int axis) {
            int c = cellAhead(x - columnPlace(0), side(), columns);
            int r = cellAhead(y - rowPlace(0), side(), rows);
            int u = x - columnPlace(c);
            int v = y - rowPlace(r);
            if (rule == RULE_NEAREST) {
                return offset(2 * u < side() ? c : c + 1, 2 * v < side() ? r : r + 1, axis);
            }
            long side = side();
            long e = offset(c, r, axis);
            long f = offset(c + 1, r, axis);
            long g = offset(c, r + 1, axis);
            long h = offset(c + 1, r + 1, axis);
            if (rule == RULE_EVEN) {
                return rounded(e * (side - u) * (side - v) + f * u * (side - v) + g * (side - u) * v + h * u * v, side * side);
            }
            if (u >= v) {
                return rounded(e * side + (f - e) * u + (h - f) * v, side);
            }
            return rounded(e * side + (h - g) * u + (g - e) * v, side);
        }

        /** n by d, ROUNDED. */
        private static int rounded(long n, long d) {
            return d > 0 ? (int) Math.floorDiv(2 * n + d, 2 * d) : 0;
        }
    }

    /** All GRIDS and the RULE: what deeds change, what is undone, what images keep. */
    private static final class Sheet {
        private final Grid[] grids;
        private int count;
        private int rule;

        Sheet() {
            grids = new Grid[MAX_GRIDS];
            for (int g = 0; g < MAX_GRIDS; g++) {
                grids[g] = new Grid();
            }
        }

        void copyFrom(Sheet other) {
            if (other == null) {
                return;
            }
            count = other.count;
            rule = other.rule;
            for (int g = 0; g < count; g++) {
                Grid grid = at(g);
                if (grid != null) {
                    grid.copyFrom(other.at(g));
                }
            }
        }

        int size() {
            return count;
        }

        int ruleNow() {
            return rule;
        }

        void setRule(int v) {
            rule = v;
        }

        /** The grid with this number; null, if there is none. */
        Grid at(int g) {
            return g >= 0 && g < count && g < grids.length ? grids[g] : null;
        }

        boolean fitsParent(int parent, int step, int x, int y, int right, int bottom) {
            Grid above = at(parent);
            return above == null || step < above.step
                && x >= above.left && right <= above.right() && y >= above.top && bottom <= above.bottom();
        }

        /** Whether a ground has no more than a border in common with those of the same PARENT. */
        boolean isApart(int parent, int x, int y, int right, int bottom) {
            for (int g = 0; g < count; g++) {
                Grid other = at(g);
                if (other != null && other.parent == parent
                    && x < other.right() && right > other.left && y < other.bottom() && bottom > other.top) {
                    return false;
                }
            }
            return true;
        }

        int add(int parent, int x, int y, int step, int columns, int rows) {
            int g = count;
            Grid grid = g >= 0 && g < grids.length ? grids[g] : null;
            if (grid == null) {
                return FULL;
            }
            count++;
            grid.place(parent, x, y, step, columns, rows);
            // A grid that went may have left its offsets here.
            grid.setOffsets(0, 0);
            return g;
        }

        void remove(int g) {
            Grid gone = at(g);
            int last = count - 1;
            if (gone == null || last < 0 || last >= grids.length) {
                return;
            }
            for (int i = g; i < last; i++) {
                grids[i] = grids[i + 1];
            }
            // Kept for the next grid that comes, so that none has to be made.
            grids[last] = gone;
            count = last;
            lowerParentsBehind(g);
        }

        private void lowerParentsBehind(int g) {
            for (int i = 0; i < count; i++) {
                Grid grid = at(i);
                if (grid != null && grid.parent > g) {
                    grid.parent--;
                }
            }
        }

        int shiftedNodes() {
            int n = 0;
            for (int g = 0; g < count; g++) {
                Grid grid = at(g);
                n += grid == null ? 0 : grid.shiftedNodes();
            }
            return n;
        }

        int children(int g) {
            int n = 0;
            for (int i = 0; i < count; i++) {
                Grid grid = at(i);
                n += grid != null && grid.parent == g ? 1 : 0;
            }
            return n;
        }

        /** One walk down the numbers is enough: a grid always has a greater number than its PARENT. */
        int parentsAbove(int g) {
            int n = 0;
            int below = g;
            for (int i = count - 1; i >= 0; i--) {
                Grid grid = at(i);
                if (i == below && grid != null && grid.parent != NONE) {
                    below = grid.parent;
                    n++;
                }
            }
            return n;
        }

        /** The grid to which a place BELONGS. One walk up is enough: a grid always has a greater number than its PARENT. */
        int owner(int x, int y) {
            int found = NONE;
            for (int g = 0; g < count; g++) {
                Grid grid = at(g);
                if (grid != null && grid.parent == found && grid.isOnGround(x, y)) {
                    found = g;
                }
            }
            return found;
        }

        /** OFFSET of a place by the grid to which it BELONGS; 0, if it is FREE. */
        int placeOffset(int x, int y, int axis) {
            Grid grid = at(owner(x, y));
            return grid == null ? 0 : grid.offsetBy(rule, x, y, axis);
        }
    }

    /** The BORDER of a grid against its PARENT; a grid without a PARENT has no GAPS. */
    private static final class Border {
        private static int gap(Grid grid, Grid parent, int rule, int c, int r) {
            if (grid == null || parent == null || !grid.isOnBorder(c, r)) {
                return 0;
            }
            int x = grid.columnPlace(c);
            int y = grid.rowPlace(r);
            int inX = Math.abs(grid.offset(c, r, ALONG_X) - parent.offsetBy(rule, x, y, ALONG_X));
            int inY = Math.abs(grid.offset(c, r, ALONG_Y) - parent.offsetBy(rule, x, y, ALONG_Y));
            return Math.max(inX, inY);
        }

        static int gaps(Sheet sheet, Grid grid) {
            if (sheet == null || grid == null) {
                return 0;
            }
            Grid parent = sheet.at(grid.parent);
            int n = 0;
            for (int r = 0; r < grid.rows; r++) {
                for (int c = 0; c < grid.columns; c++) {
                    n += gap(grid, parent, sheet.ruleNow(), c, r) > 0 ? 1 : 0;
                }
            }
            return n;
        }

        static int greatestGap(Sheet sheet, Grid grid) {
            if (sheet == null || grid == null) {
                return 0;
            }
            Grid parent = sheet.at(grid.parent);
            int greatest = 0;
            for (int r = 0; r < grid.rows; r++) {
                for (int c = 0; c < grid.columns; c++) {
                    greatest = Math.max(greatest, gap(grid, parent, sheet.ruleNow(), c, r));
                }
            }
            return greatest;
        }

        /** Gives all NODES of the BORDER what the PARENT has there. */
        static void meet(Sheet sheet, Grid grid) {
            if (sheet == null || grid == null) {
                return;
            }
            Grid parent = sheet.at(grid.parent);
            for (int r = 0; r < grid.rows; r++) {
                for (int c = 0; c < grid.columns; c++) {
                    if (parent != null && grid.isOnBorder(c, r)) {
                        int x = grid.columnPlace(c);
                        int y = grid.rowPlace(r);
                        grid.setOffset(c, r, parent.offsetBy(sheet.ruleNow(), x, y, ALONG_X), parent.offsetBy(sheet.ruleNow(), x, y, ALONG_Y));
                    }
                }
            }
        }
    }

    /** The shape of the CELL that was looked at last, by its four corners in their order round it. */
    private static final class Cell {
        private static final int CORNERS = 4;

        private final int[] dxs = new int[CORNERS];
        private final int[] dys = new int[CORNERS];
        private final long[] xs = new long[CORNERS];
        private final long[] ys = new long[CORNERS];
        private int side;

        void look(Grid grid, int c, int r) {
            if (grid == null) {
                return;
            }
            side = grid.side();
            for (int k = 0; k < CORNERS; k++) {
                int column = k == 1 || k == 2 ? c + 1 : c;
                int row = k >= 2 ? r + 1 : r;
                dxs[k] = grid.offset(column, row, ALONG_X);
                dys[k] = grid.offset(column, row, ALONG_Y);
                xs[k] = grid.columnPlace(column) + dxs[k];
                ys[k] = grid.rowPlace(row) + dys[k];
            }
        }

        private static int steepnessOf(int[] offsets) {
            if (offsets == null || offsets.length != CORNERS) {
                return 0;
            }
            int beside = Math.max(Math.abs(offsets[1] - offsets[0]), Math.abs(offsets[2] - offsets[3]));
            int above = Math.max(Math.abs(offsets[3] - offsets[0]), Math.abs(offsets[2] - offsets[1]));
            return beside + above;
        }

        int steepness() {
            return Math.max(steepnessOf(dxs), steepnessOf(dys));
        }

        boolean isSure() {
            return 2 * steepness() < side;
        }

        /** x of one corner times y of the next, less x of the next times y of the one; corners are counted round and round. */
        private long crossed(int one, int next) {
            int a = Math.floorMod(one, CORNERS);
            int b = Math.floorMod(next, CORNERS);
            return xs[a] * ys[b] - xs[b] * ys[a];
        }

        long area() {
            long sum = 0;
            for (int k = 0; k < CORNERS; k++) {
                sum += crossed(k, k + 1);
            }
            return sum;
        }

        boolean isFolded() {
            for (int k = 0; k < CORNERS; k++) {
                if (crossed(k - 1, k) + crossed(k, k + 1) + crossed(k + 1, k - 1) <= 0) {
                    return true;
                }
            }
            return false;
        }
    }

    /** BACK from a new place; all guesses of a run are held, to see whether one comes again. */
    private static final class Search {
        private final int[] xs = new int[MAX_ROUNDS + 1];
        private final int[] ys = new int[MAX_ROUNDS + 1];
        private int kind;
        private int last;

        void run(Sheet sheet, int x, int y) {
            if (sheet == null) {
                return;
            }
            xs[0] = x;
            ys[0] = y;
            last = 0;
            kind = isPlace(x, y) ? KIND_UNENDED : KIND_LEADS_OUT;
            for (int round = 1; round <= MAX_ROUNDS && kind == KIND_UNENDED; round++) {
                int guessX = xs[round - 1];
                int guessY = ys[round - 1];
                xs[round] = x - sheet.placeOffset(guessX, guessY, ALONG_X);
                ys[round] = y - sheet.placeOffset(guessX, guessY, ALONG_Y);
                last = round;
                kind = kindOf(round);
            }
        }

        private int kindOf(int round) {
            if (round < 1 || round > MAX_ROUNDS) {
                return KIND_UNENDED;
            }
            int x = xs[round];
            int y = ys[round];
            if (!isPlace(x, y)) {
                return KIND_LEADS_OUT;
            }
            if (xs[round - 1] == x && ys[round - 1] == y) {
                return KIND_FOUND;
            }
            for (int i = 0; i < round; i++) {
                if (xs[i] == x && ys[i] == y) {
                    return KIND_GOES_ROUND;
                }
            }
            return KIND_UNENDED;
        }

        int kindNow() {
            return kind;
        }

        int rounds() {
            return last;
        }

        int lastX() {
            return last >= 0 && last <= MAX_ROUNDS ? xs[last] : 0;
        }

        int lastY() {
            return last >= 0 && last <= MAX_ROUNDS ? ys[last] : 0;
        }
    }

    /** THE BOOK: places, and what x of each is said to be, MOVED. */
    private static final class Book {
        private final int[] xs = new int[MAX_ENTRIES];
        private final int[] ys = new int[MAX_ENTRIES];
        private final int[] said = new int[MAX_ENTRIES];
        private int count;

        int size() {
            return count;
        }

        void clear() {
            count = 0;
        }

        /** Answers whether there was room. */
        boolean add(int x, int y, int v) {
            if (count < 0 || count >= MAX_ENTRIES) {
                return false;
            }
            xs[count] = x;
            ys[count] = y;
            said[count] = v;
            count++;
            return true;
        }

        int firstWrong(Sheet sheet) {
            if (sheet == null) {
                return NONE;
            }
            for (int i = 0; i < count && i < MAX_ENTRIES; i++) {
                if (xs[i] + sheet.placeOffset(xs[i], ys[i], ALONG_X) != said[i]) {
                    return i;
                }
            }
            return NONE;
        }
    }

    /** THE SEED, and offsets BY DRAWS. */
    private static final class Draws {
        private static final long FACTOR = 1103515245L;
        private static final long ADDEND = 12345L;
        private static final long LAST_SEED = 2147483647L;
        private static final int OFFSETS = 401;
        private static final int LESS = 200;

        private int seedValue;

        int seedNow() {
            return seedValue;
        }

        void setSeed(int v) {
            seedValue = v;
        }

        private int draw(int n) {
            seedValue = (int) ((seedValue * FACTOR + ADDEND) & LAST_SEED);
            return n > 0 ? seedValue / 65536 % n : 0;
        }

        void shiftNode(Sheet sheet) {
            Grid grid = sheet == null ? null : sheet.at(draw(sheet.size()));
            if (grid == null) {
                return;
            }
            int c = draw(grid.columns);
            int r = draw(grid.rows);
            int dx = draw(OFFSETS) - LESS;
            int dy = draw(OFFSETS) - LESS;
            grid.setOffset(c, r, dx, dy);
        }
    }

    /** What was so ahead of each of the latest deeds; the sheets are used in turn, so that the oldest makes room. */
    private static final class History {
        private final Sheet[] sheets;
        private int next;
        private int count;

        History() {
            sheets = new Sheet[MAX_UNDONE];
            for (int i = 0; i < MAX_UNDONE; i++) {
                sheets[i] = new Sheet();
            }
        }

        int size() {
            return count;
        }

        void clear() {
            count = 0;
        }

        void push(Sheet sheet) {
            Sheet oldest = sheets[Math.floorMod(next, MAX_UNDONE)];
            if (oldest == null) {
                return;
            }
            oldest.copyFrom(sheet);
            next = Math.floorMod(next + 1, MAX_UNDONE);
            count = Math.min(count + 1, MAX_UNDONE);
        }

        void takeBack(Sheet sheet, int n) {
            if (sheet == null) {
                return;
            }
            next = Math.floorMod(next - n, MAX_UNDONE);
            count = Math.max(count - n, 0);
            sheet.copyFrom(sheets[next]);
        }
    }

    /** An IMAGE: GRIDS, OFFSETS, RULE and THE SEED. */
    private static final class Image {
        private final Sheet kept = new Sheet();
        private int seedThen;
        private boolean taken;

        boolean wasTaken() {
            return taken;
        }

        void take(Sheet sheet, Draws draws) {
            if (draws == null) {
                return;
            }
            kept.copyFrom(sheet);
            seedThen = draws.seedNow();
            taken = true;
        }

        void give(Sheet sheet, Draws draws) {
            if (sheet == null || draws == null) {
                return;
            }
            sheet.copyFrom(kept);
            draws.setSeed(seedThen);
        }
    }
}
