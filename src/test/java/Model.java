import java.math.BigInteger;
import java.util.ArrayDeque;
import java.util.ArrayList;
import java.util.Deque;
import java.util.List;
import java.util.Set;
import java.util.HashSet;
import java.util.TreeMap;

/**
 * The document once more, written another way (lists, sets, copies, numbers without end), to be held against the class.
 * Nothing here is shared with it.
 */
final class Model {
    static final int NONE = -1, PLUS = 1000000, UNKNOWN = -1000000001, OUTSIDE = -1000000002, NOT = -1000000003, FULL = -1000000004;

    record Node(int c, int r) { }

    record Shift(int dx, int dy) {
        boolean isZero() {
            return dx == 0 && dy == 0;
        }
    }

    record Spot(long x, long y) {
        boolean isPlace() {
            return x >= 0 && x <= 64000 && y >= 0 && y <= 64000;
        }
    }

    /** A grid knows its parent itself; a number is only where it stands in the list. */
    static final class Grid {
        Grid parent;
        int x, y, step, columns, rows;
        final TreeMap<Integer, Shift> shifts = new TreeMap<>();

        Shift at(int c, int r) {
            return shifts.getOrDefault(r * 100 + c, new Shift(0, 0));
        }

        void set(int c, int r, Shift s) {
            shifts.put(r * 100 + c, s);
        }

        Spot spot(int c, int r) {
            return new Spot(64L * (x + c * step), 64L * (y + r * step));
        }

        boolean holds(Spot p) {
            Spot first = spot(0, 0);
            Spot last = spot(columns - 1, rows - 1);
            return p.x() >= first.x() && p.x() <= last.x() && p.y() >= first.y() && p.y() <= last.y();
        }

        List<Node> nodes() {
            List<Node> all = new ArrayList<>();
            for (int r = 0; r < rows; r++) {
                for (int c = 0; c < columns; c++) {
                    all.add(new Node(c, r));
                }
            }
            return all;
        }

        List<Node> cells() {
            return nodes().stream().filter(n -> n.c() + 1 < columns && n.r() + 1 < rows).toList();
        }

        List<Node> border() {
            return nodes().stream().filter(n -> n.c() % (columns - 1) == 0 || n.r() % (rows - 1) == 0).toList();
        }
    }

    record State(List<Grid> grids, int rule) {
        State copy() {
            List<Grid> copies = new ArrayList<>();
            for (Grid g : grids) {
                Grid n = new Grid();
                n.parent = g.parent == null ? null : copies.get(grids.indexOf(g.parent));
                n.x = g.x;
                n.y = g.y;
                n.step = g.step;
                n.columns = g.columns;
                n.rows = g.rows;
                n.shifts.putAll(g.shifts);
                copies.add(n);
            }
            return new State(copies, rule);
        }
    }

    record Entry(Spot place, int v) { }

    private State now = new State(new ArrayList<>(), 0);
    private BigInteger seed = BigInteger.ZERO;
    private final Deque<State> before = new ArrayDeque<>();
    private final List<Entry> book = new ArrayList<>();
    private final State[] images = new State[2];
    private final BigInteger[] imageSeeds = new BigInteger[2];

    private void deed() {
        before.addLast(now.copy());
        if (before.size() > 16) {
            before.removeFirst();
        }
    }

    private boolean has(int g) {
        return g >= 0 && g < now.grids().size();
    }

    private boolean hasNode(int g, int c, int r) {
        return has(g) && now.grids().get(g).nodes().contains(new Node(c, r));
    }

    private static boolean in(int n, int a, int b) {
        return a <= n && n <= b;
    }

    /** The nearest whole number, of two the greater: tried upwards from the quotient towards 0. */
    static long rounded(BigInteger n, BigInteger d) {
        BigInteger low = n.divide(d).subtract(BigInteger.ONE);
        BigInteger best = low;
        for (int i = 1; i <= 3; i++) {
            BigInteger candidate = low.add(BigInteger.valueOf(i));
            if (n.subtract(candidate.multiply(d)).abs().compareTo(n.subtract(best.multiply(d)).abs()) <= 0) {
                best = candidate;
            }
        }
        return best.longValueExact();
    }

    private static long sumBy(long n, long d) {
        return rounded(BigInteger.valueOf(n), BigInteger.valueOf(d));
    }

    private Shift by(Grid grid, Spot p) {
        Node cell = null;
        for (Node n : grid.cells()) {
            Spot s = grid.spot(n.c(), n.r());
            if (s.x() <= p.x() && s.y() <= p.y() && (cell == null || n.c() >= cell.c() && n.r() >= cell.r())) {
                cell = n;
            }
        }
        long d = 64L * grid.step;
        long u = p.x() - grid.spot(cell.c(), cell.r()).x();
        long v = p.y() - grid.spot(cell.c(), cell.r()).y();
        Shift e = grid.at(cell.c(), cell.r());
        Shift f = grid.at(cell.c() + 1, cell.r());
        Shift g = grid.at(cell.c(), cell.r() + 1);
        Shift h = grid.at(cell.c() + 1, cell.r() + 1);
        return new Shift((int) between(e.dx(), f.dx(), g.dx(), h.dx(), u, v, d), (int) between(e.dy(), f.dy(), g.dy(), h.dy(), u, v, d));
    }

    private long between(long e, long f, long g, long h, long u, long v, long d) {
        if (now.rule() == 1) {
            boolean near = 2 * u < d;
            boolean high = 2 * v < d;
            return near && high ? e : high ? f : near ? g : h;
        }
        if (now.rule() == 0) {
            return sumBy(e * (d - u) * (d - v) + f * u * (d - v) + g * (d - u) * v + h * u * v, d * d);
        }
        return u >= v ? sumBy(e * d + (f - e) * u + (h - f) * v, d) : sumBy(e * d + (h - g) * u + (g - e) * v, d);
    }

    private Grid belongs(Spot p) {
        Grid found = null;
        while (true) {
            Grid above = found;
            Grid next = now.grids().stream().filter(g -> g.parent == above && g.holds(p)).findFirst().orElse(null);
            if (next == null) {
                return found;
            }
            found = next;
        }
    }

    private Shift of(Spot p) {
        Grid g = belongs(p);
        return g == null ? new Shift(0, 0) : by(g, p);
    }

    private static long round(Spot... spots) {
        long sum = 0;
        for (int i = 0; i < spots.length; i++) {
            Spot a = spots[i];
            Spot b = spots[(i + 1) % spots.length];
            sum += a.x() * b.y() - b.x() * a.y();
        }
        return sum;
    }

    private static Spot[] corners(Grid g, Node n) {
        int[][] order = {{0, 0}, {1, 0}, {1, 1}, {0, 1}};
        Spot[] spots = new Spot[4];
        for (int i = 0; i < 4; i++) {
            Spot s = g.spot(n.c() + order[i][0], n.r() + order[i][1]);
            Shift o = g.at(n.c() + order[i][0], n.r() + order[i][1]);
            spots[i] = new Spot(s.x() + o.dx(), s.y() + o.dy());
        }
        return spots;
    }

    private static boolean folded(Grid g, Node n) {
        Spot[] s = corners(g, n);
        return round(s[3], s[0], s[1]) <= 0 || round(s[0], s[1], s[2]) <= 0 || round(s[1], s[2], s[3]) <= 0 || round(s[2], s[3], s[0]) <= 0;
    }

    private static int steep(Grid g, Node n) {
        Shift e = g.at(n.c(), n.r());
        Shift f = g.at(n.c() + 1, n.r());
        Shift d = g.at(n.c(), n.r() + 1);
        Shift h = g.at(n.c() + 1, n.r() + 1);
        int inX = Math.max(Math.abs(e.dx() - f.dx()), Math.abs(d.dx() - h.dx())) + Math.max(Math.abs(e.dx() - d.dx()), Math.abs(f.dx() - h.dx()));
        int inY = Math.max(Math.abs(e.dy() - f.dy()), Math.abs(d.dy() - h.dy())) + Math.max(Math.abs(e.dy() - d.dy()), Math.abs(f.dy() - h.dy()));
        return Math.max(inX, inY);
    }

    private static boolean sure(Grid g, Node n) {
        return 2 * steep(g, n) < 64 * g.step;
    }

    private List<Integer> gaps(Grid g) {
        List<Integer> sizes = new ArrayList<>();
        if (g.parent == null) {
            return sizes;
        }
        for (Node n : g.border()) {
            Shift has = g.at(n.c(), n.r());
            Shift due = by(g.parent, g.spot(n.c(), n.r()));
            if (!has.equals(due)) {
                sizes.add(Math.max(Math.abs(has.dx() - due.dx()), Math.abs(has.dy() - due.dy())));
            }
        }
        return sizes;
    }

    private int greatest(Grid g) {
        return gaps(g).stream().mapToInt(i -> i).max().orElse(0);
    }

    private int shifted() {
        return (int) now.grids().stream().flatMap(g -> g.nodes().stream().map(n -> g.at(n.c(), n.r()))).filter(s -> !s.isZero()).count();
    }

    private static int folds(Grid g) {
        return (int) g.cells().stream().filter(n -> folded(g, n)).count();
    }

    int told(int what) {
        List<Grid> all = now.grids();
        int most = all.stream().mapToInt(this::greatest).max().orElse(0);
        return switch (what) {
            case 0 -> all.size();
            case 1 -> now.rule();
            case 2 -> shifted();
            case 3 -> (int) all.stream().mapToLong(g -> g.cells().stream().filter(n -> !sure(g, n)).count()).sum();
            case 4 -> all.stream().mapToInt(Model::folds).sum();
            case 5 -> all.stream().mapToInt(g -> gaps(g).size()).sum();
            case 6 -> most;
            case 7 -> most == 0 ? NONE : all.indexOf(all.stream().filter(g -> greatest(g) == most).findFirst().get());
            case 8 -> book.size();
            case 9 -> book.indexOf(book.stream().filter(e -> e.place().x() + of(e.place()).dx() != e.v()).findFirst().orElse(null));
            case 10 -> before.size();
            case 11 -> seed.intValueExact();
            default -> OUTSIDE;
        };
    }

    int gridAt(int number, int what) {
        if (!has(number)) {
            return UNKNOWN;
        }
        Grid g = now.grids().get(number);
        int depth = 0;
        for (Grid p = g.parent; p != null; p = p.parent) {
            depth++;
        }
        return switch (what) {
            case 0 -> now.grids().indexOf(g.parent);
            case 1 -> g.x;
            case 2 -> g.y;
            case 3 -> g.step;
            case 4 -> g.columns;
            case 5 -> g.rows;
            case 6 -> (int) now.grids().stream().filter(o -> o.parent == g).count();
            case 7 -> depth;
            case 8 -> gaps(g).size();
            case 9 -> greatest(g);
            case 10 -> folds(g);
            default -> OUTSIDE;
        };
    }

    int nodeAt(int number, int c, int r, int what) {
        if (!hasNode(number, c, r)) {
            return UNKNOWN;
        }
        if (!in(what, 0, 3)) {
            return OUTSIDE;
        }
        Grid g = now.grids().get(number);
        if (what < 2) {
            return PLUS + (what == 0 ? g.at(c, r).dx() : g.at(c, r).dy());
        }
        if (g.parent == null) {
            return NONE;
        }
        Shift s = by(g.parent, g.spot(c, r));
        return PLUS + (what == 2 ? s.dx() : s.dy());
    }

    long cellAt(int number, int c, int r, int what) {
        if (!has(number) || !now.grids().get(number).cells().contains(new Node(c, r))) {
            return UNKNOWN;
        }
        Grid g = now.grids().get(number);
        Node n = new Node(c, r);
        return switch (what) {
            case 0 -> steep(g, n);
            case 1 -> sure(g, n) ? 1 : 0;
            case 2 -> folded(g, n) ? 1 : 0;
            case 3 -> round(corners(g, n));
            default -> OUTSIDE;
        };
    }

    int which(int x, int y) {
        Spot p = new Spot(x, y);
        return p.isPlace() ? now.grids().indexOf(belongs(p)) : OUTSIDE;
    }

    int moved(int x, int y, int what) {
        Spot p = new Spot(x, y);
        if (!p.isPlace() || !in(what, 0, 1)) {
            return OUTSIDE;
        }
        return PLUS + (what == 0 ? x + of(p).dx() : y + of(p).dy());
    }

    int back(int x, int y, int what) {
        if (!in(x, -10000, 80000) || !in(y, -10000, 80000) || !in(what, 0, 3)) {
            return OUTSIDE;
        }
        List<Spot> guesses = new ArrayList<>(List.of(new Spot(x, y)));
        Set<Spot> seen = new HashSet<>(guesses);
        int kind = guesses.get(0).isPlace() ? NONE : 2;
        while (kind == NONE) {
            Spot ahead = guesses.get(guesses.size() - 1);
            Shift s = of(ahead);
            Spot guess = new Spot(x - s.dx(), y - s.dy());
            guesses.add(guess);
            boolean isNew = seen.add(guess);
            if (!guess.isPlace()) {
                kind = 2;
            } else if (guess.equals(ahead)) {
                kind = 0;
            } else if (!isNew) {
                kind = 1;
            } else if (guesses.size() == 61) {
                kind = 3;
            }
        }
        Spot last = guesses.get(guesses.size() - 1);
        int[] answers = {kind, guesses.size() - 1, (int) last.x() + PLUS, (int) last.y() + PLUS};
        return answers[what];
    }

    int grid(int parent, int x, int y, int step, int columns, int rows) {
        if (parent != NONE && !has(parent)) {
            return UNKNOWN;
        }
        if (!in(x, 0, 1000) || !in(y, 0, 1000) || !in(step, 1, 64) || !in(columns, 2, 5) || !in(rows, 2, 5)) {
            return OUTSIDE;
        }
        Grid g = new Grid();
        g.parent = parent == NONE ? null : now.grids().get(parent);
        g.x = x;
        g.y = y;
        g.step = step;
        g.columns = columns;
        g.rows = rows;
        Spot first = g.spot(0, 0);
        Spot last = g.spot(columns - 1, rows - 1);
        if (!last.isPlace()) {
            return OUTSIDE;
        }
        if (g.parent != null && (step >= g.parent.step || !g.parent.holds(first) || !g.parent.holds(last))) {
            return NOT;
        }
        for (Grid o : now.grids()) {
            Spot oFirst = o.spot(0, 0);
            Spot oLast = o.spot(o.columns - 1, o.rows - 1);
            long wide = Math.min(last.x(), oLast.x()) - Math.max(first.x(), oFirst.x());
            long high = Math.min(last.y(), oLast.y()) - Math.max(first.y(), oFirst.y());
            if (o.parent == g.parent && wide > 0 && high > 0) {
                return NOT;
            }
        }
        if (now.grids().size() == 6) {
            return FULL;
        }
        deed();
        now.grids().add(g);
        return now.grids().size() - 1;
    }

    int node(int number, int c, int r, int dx, int dy) {
        if (!hasNode(number, c, r)) {
            return UNKNOWN;
        }
        if (!in(dx, -999, 999) || !in(dy, -999, 999)) {
            return OUTSIDE;
        }
        deed();
        Shift s = new Shift(dx, dy);
        boolean other = !now.grids().get(number).at(c, r).equals(s);
        now.grids().get(number).set(c, r, s);
        return other ? 1 : 0;
    }

    int fill(int number, int dx, int dy) {
        if (!has(number)) {
            return UNKNOWN;
        }
        if (!in(dx, -999, 999) || !in(dy, -999, 999)) {
            return OUTSIDE;
        }
        deed();
        Grid g = now.grids().get(number);
        Shift s = new Shift(dx, dy);
        int others = (int) g.nodes().stream().filter(n -> !g.at(n.c(), n.r()).equals(s)).count();
        g.nodes().forEach(n -> g.set(n.c(), n.r(), s));
        return others;
    }

    int fit(int number) {
        if (!has(number)) {
            return UNKNOWN;
        }
        if (now.grids().get(number).parent == null) {
            return NOT;
        }
        deed();
        Grid g = now.grids().get(number);
        int had = gaps(g).size();
        g.border().forEach(n -> g.set(n.c(), n.r(), by(g.parent, g.spot(n.c(), n.r()))));
        return had;
    }

    int drop(int number) {
        if (!has(number)) {
            return UNKNOWN;
        }
        Grid g = now.grids().get(number);
        if (now.grids().stream().anyMatch(o -> o.parent == g)) {
            return NOT;
        }
        deed();
        now.grids().remove(g);
        return now.grids().size();
    }

    int rule(int v) {
        if (!in(v, 0, 2)) {
            return OUTSIDE;
        }
        deed();
        int was = now.rule();
        now = new State(now.grids(), v);
        return was;
    }

    private int draw(int n) {
        seed = seed.multiply(BigInteger.valueOf(1103515245)).add(BigInteger.valueOf(12345)).mod(BigInteger.TWO.pow(31));
        return seed.divide(BigInteger.valueOf(65536)).mod(BigInteger.valueOf(n)).intValueExact();
    }

    int drift(int n) {
        if (!in(n, 1, 12)) {
            return OUTSIDE;
        }
        if (now.grids().isEmpty()) {
            return NOT;
        }
        for (int i = 0; i < n; i++) {
            deed();
            Grid g = now.grids().get(draw(now.grids().size()));
            int c = draw(g.columns);
            int r = draw(g.rows);
            int dx = draw(401) - 200;
            g.set(c, r, new Shift(dx, draw(401) - 200));
        }
        return shifted();
    }

    int undo(int n) {
        if (!in(n, 1, 16)) {
            return OUTSIDE;
        }
        if (n > before.size()) {
            return NOT;
        }
        for (int i = 0; i < n; i++) {
            now = before.removeLast();
        }
        return before.size();
    }

    int write(int x, int y, int v) {
        Spot p = new Spot(x, y);
        if (!p.isPlace()) {
            return OUTSIDE;
        }
        if (book.size() == 20) {
            return FULL;
        }
        book.add(new Entry(p, v));
        return book.size();
    }

    int tear() {
        int had = book.size();
        book.clear();
        return had;
    }

    int seed(int v) {
        if (v < 0) {
            return OUTSIDE;
        }
        int was = seed.intValueExact();
        seed = BigInteger.valueOf(v);
        return was;
    }

    int keep(int i) {
        if (!in(i, 0, 1)) {
            return UNKNOWN;
        }
        images[i] = now.copy();
        imageSeeds[i] = seed;
        before.clear();
        return 1;
    }

    int goBack(int i) {
        if (!in(i, 0, 1)) {
            return UNKNOWN;
        }
        if (images[i] == null) {
            return NOT;
        }
        now = images[i].copy();
        seed = imageSeeds[i];
        before.clear();
        return 1;
    }
}
