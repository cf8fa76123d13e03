import java.util.Random;

/**
 * Long runs of calls, the same ones on the class and on the model; every answer has to be the same. Two runs go on in turn, so
 * that an object that knew of another one would be seen.
 */
public final class ModelTest {
    private static final int RUNS = 400;
    private static final int CALLS = 512;
    private static final int[] ODD = {Integer.MIN_VALUE, -1000000, -10001, -1001, -1000, -2, -1, 0, 1, 2, 5, 6, 13, 17, 64, 65, 999, 1000, 1001, 63999, 64000, 64001, 80000, 80001, Integer.MAX_VALUE};
    private static final Due due = new Due("ModelTest");

    private final Random random;
    private final ShiftGrids real = new ShiftGrids();
    private final Model model = new Model();
    private final int run;
    private int calls;

    private ModelTest(int run) {
        this.run = run;
        random = new Random(run);
    }

    public static void main(String[] args) {
        for (int run = 0; run < RUNS; run += 2) {
            ModelTest one = new ModelTest(run);
            ModelTest other = new ModelTest(run + 1);
            while (one.goesOn() || other.goesOn()) {
                one.someSteps();
                other.someSteps();
            }
        }
        due.end();
    }

    /** A step is five calls at most, and an object is used for 512. */
    private boolean goesOn() {
        return calls <= CALLS - 5;
    }

    private void someSteps() {
        int steps = 1 + random.nextInt(3);
        for (int i = 0; i < steps && goesOn(); i++) {
            calls += step(random.nextInt(100));
        }
    }

    /** A number within these bounds, mostly; one at a bound, or an odd one, now and then. */
    private int some(int first, int last) {
        int kind = random.nextInt(run % 4 == 0 ? 12 : 60);
        if (kind == 0) {
            return ODD[random.nextInt(ODD.length)];
        }
        if (kind == 1) {
            return random.nextBoolean() ? first - 1 : last + 1;
        }
        if (kind == 2) {
            return random.nextBoolean() ? first : last;
        }
        return first + random.nextInt(last - first + 1);
    }

    private int someGrid() {
        return some(0, Math.max(0, model.told(0) - 1));
    }

    /** A column (4) or a row (5) of a grid, mostly. */
    private int someNode(int g, int what) {
        boolean known = g >= 0 && g < model.told(0);
        return some(0, known ? model.gridAt(g, what) - 1 : 4);
    }

    private int someOffset() {
        int reach = new int[] {0, 1, 3, 30, 100, 300, 999}[random.nextInt(7)];
        return some(-reach, reach);
    }

    /** A place near a grid, along one axis: on a node, in the middle of a cell, or somewhere about. */
    private int near(int g, int axis) {
        if (model.told(0) == 0 || random.nextInt(10) == 0) {
            return some(0, 64000);
        }
        int at = g < 0 || g >= model.told(0) ? 0 : g;
        int first = model.gridAt(at, 1 + axis) * 64;
        int side = model.gridAt(at, 3) * 64;
        int nodes = model.gridAt(at, 4 + axis);
        int half = side / 2 * random.nextInt(2 * nodes);
        return switch (random.nextInt(3)) {
            case 0 -> first + half;
            case 1 -> first + half + random.nextInt(5) - 2;
            default -> first - 20 + random.nextInt(side * (nodes - 1) + 40);
        };
    }

    private int step(int kind) {
        if (kind < 10) {
            return grid();
        }
        if (kind < 20) {
            int g = someGrid(), c = someNode(g, 4), r = someNode(g, 5), dx = someOffset(), dy = someOffset();
            return same("node(" + g + ", " + c + ", " + r + ", " + dx + ", " + dy + ")", real.node(g, c, r, dx, dy), model.node(g, c, r, dx, dy));
        }
        if (kind < 24) {
            int g = someGrid(), dx = someOffset(), dy = someOffset();
            return same("fill(" + g + ", " + dx + ", " + dy + ")", real.fill(g, dx, dy), model.fill(g, dx, dy));
        }
        if (kind < 29) {
            int g = someGrid();
            return same("fit(" + g + ")", real.fit(g), model.fit(g));
        }
        if (kind < 32) {
            int g = someGrid();
            return same("drop(" + g + ")", real.drop(g), model.drop(g));
        }
        if (kind < 35) {
            int v = some(0, 2);
            return same("rule(" + v + ")", real.rule(v), model.rule(v));
        }
        if (kind < 40) {
            int n = some(1, 12);
            return same("drift(" + n + ")", real.drift(n), model.drift(n));
        }
        if (kind < 43) {
            int n = random.nextInt(3) == 0 ? some(1, 16) : some(1, 4);
            return same("undo(" + n + ")", real.undo(n), model.undo(n));
        }
        return kind < 55 ? bookOrImage(kind) : look(kind);
    }

    private int bookOrImage(int kind) {
        if (kind < 49) {
            int g = someGrid(), x = near(g, 0), y = near(g, 1);
            int at = model.moved(x, y, 0);
            int v = random.nextInt(8) == 0 ? some(0, 64000) : at - 1000000;
            return same("write(" + x + ", " + y + ", " + v + ")", real.write(x, y, v), model.write(x, y, v));
        }
        if (kind == 49) {
            return random.nextInt(6) == 0 ? same("tear()", real.tear(), model.tear()) : 0;
        }
        if (kind < 52) {
            int v = random.nextBoolean() ? random.nextInt() : some(0, 5);
            return same("seed(" + v + ")", real.seed(v), model.seed(v));
        }
        int i = some(0, 1);
        if (kind == 52) {
            return same("keep(" + i + ")", real.keep(i), model.keep(i));
        }
        return random.nextInt(3) == 0 ? same("goBack(" + i + ")", real.goBack(i), model.goBack(i)) : 0;
    }

    private int look(int kind) {
        int g = someGrid();
        if (kind < 65) {
            int what = some(0, 11);
            return same("told(" + what + ")", real.told(what), model.told(what));
        }
        if (kind < 71) {
            int what = some(0, 10);
            return same("gridAt(" + g + ", " + what + ")", real.gridAt(g, what), model.gridAt(g, what));
        }
        int c = someNode(g, 4), r = someNode(g, 5), what = some(0, 3);
        if (kind < 77) {
            return same("nodeAt(" + g + ", " + c + ", " + r + ", " + what + ")", real.nodeAt(g, c, r, what), model.nodeAt(g, c, r, what));
        }
        if (kind < 83) {
            c -= random.nextInt(2);
            r -= random.nextInt(2);
            return same("cellAt(" + g + ", " + c + ", " + r + ", " + what + ")", real.cellAt(g, c, r, what), model.cellAt(g, c, r, what));
        }
        int x = near(g, 0), y = near(g, 1);
        if (kind < 87) {
            return same("which(" + x + ", " + y + ")", real.which(x, y), model.which(x, y));
        }
        if (kind < 93) {
            int axis = some(0, 1);
            return same("moved(" + x + ", " + y + ", " + axis + ")", real.moved(x, y, axis), model.moved(x, y, axis));
        }
        int newX = x + some(-300, 300), newY = y + some(-300, 300);
        for (int answer = 0; answer < 4; answer++) {
            same("back(" + newX + ", " + newY + ", " + answer + ")", real.back(newX, newY, answer), model.back(newX, newY, answer));
        }
        return 4 + same("back(" + newX + ", " + newY + ", " + what + ")", real.back(newX, newY, what), model.back(newX, newY, what));
    }

    private int grid() {
        int parent = random.nextInt(3) == 0 ? -1 : someGrid();
        int x, y, step;
        int columns = some(2, 5), rows = some(2, 5);
        if (parent >= 0 && parent < model.told(0) && random.nextInt(8) != 0) {
            int above = model.gridAt(parent, 3);
            step = some(1, Math.max(1, above / 2 + random.nextInt(above / 2 + 1)));
            x = model.gridAt(parent, 1) + random.nextInt(above * (model.gridAt(parent, 4) - 1) + 1);
            y = model.gridAt(parent, 2) + random.nextInt(above * (model.gridAt(parent, 5) - 1) + 1);
        } else {
            // Small cells are the ones that fold, and in which the rounds go round or lead on for long.
            step = some(1, random.nextBoolean() ? 64 : 3);
            x = some(0, random.nextBoolean() ? 1000 : 200);
            y = some(0, random.nextBoolean() ? 1000 : 200);
        }
        return same("grid(" + parent + ", " + x + ", " + y + ", " + step + ", " + columns + ", " + rows + ")",
            real.grid(parent, x, y, step, columns, rows), model.grid(parent, x, y, step, columns, rows));
    }

    private int same(String call, long got, long want) {
        due.is("run " + run + ": " + call, got, want);
        return 1;
    }
}
