import java.util.Arrays;
import java.util.TreeSet;

/**
 * Every call, with every pair of its arguments at all edges at once (bounds, one to each side of them, numbers whose sums or
 * products come round, the least and the greatest int), on a new, the least and a full object: the model answers the same,
 * and what is so behind it is the same.
 */
public final class SweepTest {
    private static final int MIN = Integer.MIN_VALUE, MAX = Integer.MAX_VALUE;
    private static final int[] FAR = {MIN, MIN + 1, MIN + 5, -1717986918, -1073741824, -858993459, -65536, 65536, 858993459, 1073741824, 1717986918, MAX - 1, MAX};
    private static final int[] GRIDS = {-2, -1, 0, 1, 2, 3, 4, 5, 6, 7};
    private static final int[] NODES = {-5, -2, -1, 0, 1, 2, 3, 4, 5, 6, 10};
    private static final int[] OFFSETS = {-1000, -999, -998, -1, 0, 1, 998, 999, 1000};
    // Borders of the grids of the full scene, one to each side; a middle of a cell.
    private static final int[] PLACES = {
        -1, 0, 1, 2048, 4095, 4096, 4097, 4352, 6143, 6144, 6145, 8191, 8192, 8193, 12287, 12288, 12289, 16383, 16384, 16385,
        16448, 16449, 47615, 47616, 47617, 63999, 64000, 64001,
    };
    private static final int[] NEW_PLACES = {-10001, -10000, -1000, -1, 0, 1, 64, 4096, 5000, 8192, 16384, 16400, 47616, 63500, 64000, 64001, 65000, 79999, 80000, 80001};
    private static final int[] CORNERS = {-1, 0, 1, 63, 64, 65, 96, 127, 128, 129, 192, 255, 256, 257, 500, 680, 744, 745, 808, 936, 937, 998, 999, 1000, 1001};
    private static final int[] STEPS = {-1, 0, 1, 2, 7, 8, 9, 31, 32, 33, 63, 64, 65};
    private static final int[] SIZES = {-1, 0, 1, 2, 3, 4, 5, 6, 67108865};
    private static final int MOST_CALLS = 512;
    private static final int LAST_REFUSAL = -1000000001;
    private static final Due due = new Due("SweepTest");

    private final Call[] scene;
    private ShiftGrids real;
    private Model model;
    private int calls;

    private SweepTest(String[] texts) {
        scene = Arrays.stream(texts).map(Call::of).toArray(Call[]::new);
        begin();
    }

    public static void main(String[] args) {
        for (String[] texts : new String[][] {Scenes.NEW, Scenes.LEAST, Scenes.FULL}) {
            SweepTest test = new SweepTest(texts);
            test.looks();
            test.deeds();
            test.bookAndImages();
        }
        due.end();
    }

    private void begin() {
        real = new ShiftGrids();
        model = new Model();
        calls = scene.length;
        for (Call call : scene) {
            call.on(real);
            call.on(model);
        }
    }

    private void looks() {
        sweep("told", new int[][] {{0}}, range(-2, 13));
        sweep("gridAt", new int[][] {{0, 0}}, GRIDS, range(-2, 12));
        for (int g = 0; g < 6; g++) {
            sweep("nodeAt", new int[][] {{g, 0, 0, 0}, {g, 1, 1, 3}}, GRIDS, NODES, NODES, range(-2, 5));
            sweep("cellAt", new int[][] {{g, 0, 0, 0}, {g, 0, 0, 3}, {g, 0, 0, 2}}, GRIDS, NODES, NODES, range(-2, 5));
        }
        sweep("which", new int[][] {{0, 0}}, PLACES, PLACES);
        sweep("moved", new int[][] {{0, 0, 0}, {0, 0, 1}, {64000, 64000, 0}}, PLACES, PLACES, range(-1, 2));
        sweep("back", new int[][] {{0, 0, 0}, {0, 0, 1}, {0, 0, 2}, {64000, 64000, 3}}, NEW_PLACES, NEW_PLACES, range(-1, 4));
    }

    private void deeds() {
        int[][] grids = {
            {-1, 500, 500, 1, 2, 2}, {-1, 0, 0, 64, 5, 5}, {0, 0, 0, 32, 2, 2}, {0, 192, 192, 32, 3, 3}, {1, 96, 96, 8, 5, 5}, {-1, 256, 256, 64, 5, 5}, {3, 744, 744, 8, 2, 2},
        };
        sweep("grid", grids, GRIDS, CORNERS, CORNERS, STEPS, SIZES, SIZES);
        sweep("node", new int[][] {{0, 0, 0, 0, 0}, {0, 1, 1, 999, 999}, {5, 1, 0, -999, 1}}, GRIDS, NODES, NODES, OFFSETS, OFFSETS);
        sweep("fill", new int[][] {{0, 0, 0}, {5, 999, -999}}, GRIDS, OFFSETS, OFFSETS);
        sweep("fit", new int[][] {{0}}, GRIDS);
        sweep("drop", new int[][] {{0}}, GRIDS);
        sweep("rule", new int[][] {{0}}, range(-2, 4));
        sweep("drift", new int[][] {{1}}, range(-2, 14));
        sweep("undo", new int[][] {{1}}, range(-2, 18));
    }

    private void bookAndImages() {
        sweep("write", new int[][] {{0, 0, 0}, {64000, 64000, 64000}}, PLACES, PLACES, OFFSETS);
        sweep("seed", new int[][] {{0}}, range(-2, 2));
        sweep("keep", new int[][] {{0}}, range(-2, 3));
        sweep("goBack", new int[][] {{0}}, range(-2, 3));
    }

    private static int[] range(int first, int last) {
        int[] all = new int[last - first + 1];
        for (int i = 0; i < all.length; i++) {
            all[i] = first + i;
        }
        return all;
    }

    /** From each base every pair of arguments goes through all its edges, the far numbers too. */
    private void sweep(String name, int[][] bases, int[]... edges) {
        TreeSet<String> seen = new TreeSet<>();
        for (int[] base : bases) {
            for (int i = 0; i < base.length; i++) {
                for (int k = i; k < base.length; k++) {
                    pair(name, base, i, k, edges, seen);
                }
            }
        }
    }

    private void pair(String name, int[] base, int i, int k, int[][] edges, TreeSet<String> seen) {
        for (int first : withFar(edges[i])) {
            for (int second : i == k ? new int[] {first} : withFar(edges[k])) {
                int[] args = base.clone();
                args[i] = first;
                args[k] = second;
                Call call = new Call(name, args);
                if (seen.add(call.toString())) {
                    same(call);
                }
            }
        }
    }

    private static int[] withFar(int[] edges) {
        int[] all = Arrays.copyOf(edges, edges.length + FAR.length);
        System.arraycopy(FAR, 0, all, edges.length, FAR.length);
        return all;
    }

    private void same(Call call) {
        long got = call.on(real);
        long want = call.on(model);
        calls++;
        due.is("with " + scene.length + " calls ahead of it " + call, got, want);
        boolean isChange = call.isDeed() && want > LAST_REFUSAL;
        if (isChange) {
            for (int what = 0; what <= 11; what++) {
                due.is("behind " + call + " told(" + what + ")", real.told(what), model.told(what));
            }
        }
        if (isChange || calls >= MOST_CALLS - 12) {
            begin();
        }
    }
}
