import java.util.ArrayList;
import java.util.List;

/** Objects to begin a test with, as the calls that make them: besides a new one, the least and a full one. */
final class Scenes {
    static final String[] NEW = {};

    /** One grid, the smallest, in the first corner; one deed, one entry. */
    static final String[] LEAST = {"grid(NONE, 0, 0, 1, 2, 2)", "write(0, 0, 0)"};

    /** Six grids, sixteen deeds to be undone (and two that are too old), twenty entries, both images. */
    static final String[] FULL = full();

    private Scenes() {
    }

    private static String[] full() {
        List<String> calls = new ArrayList<>(List.of(
            "grid(NONE, 0, 0, 64, 5, 5)", "grid(0, 64, 64, 32, 3, 3)", "grid(1, 64, 64, 8, 5, 5)", "grid(NONE, 744, 744, 64, 5, 5)",
            "keep(0)", "fill(0, 999, -999)", "rule(1)", "seed(7)", "keep(1)", "seed(2147483647)",
            "grid(0, 128, 64, 32, 3, 3)", "grid(NONE, 256, 0, 1, 2, 2)", "drift(12)",
            "fill(3, -999, 999)", "node(0, 4, 4, 999, 999)", "fit(1)", "rule(2)", "seed(2147483647)"));
        for (int n = 1; n <= 20; n++) {
            calls.add("write(" + 64 * (300 + n) + ", 64000, " + 64 * (300 + n) + ")");
        }
        return calls.toArray(new String[0]);
    }
}
