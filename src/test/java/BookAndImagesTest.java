/** Promises 17 to 21: write, tear, seed, keep, goBack. */
public final class BookAndImagesTest {
    private static final int NONE = -1, UNKNOWN = -1000000001, OUTSIDE = -1000000002, NOT = -1000000003, FULL = -1000000004;
    private static final int PLUS = 1000000;
    private static final int MIN = Integer.MIN_VALUE, MAX = Integer.MAX_VALUE;
    private static final Due due = new Due("BookAndImagesTest");

    public static void main(String[] args) {
        promise17Write();
        promise17Judged();
        promise18Tear();
        promise19Seed();
        promise20Keep();
        promise21GoBack();
        promise21BookStays();
        due.end();
    }

    private static void promise17Write() {
        ShiftGrids x = new ShiftGrids();
        int[][] outside = {{-1, 0}, {64001, 0}, {0, -1}, {0, 64001}, {MIN, 0}, {0, MAX}};
        for (int[] o : outside) {
            due.is("outside", x.write(o[0], o[1], 0), OUTSIDE);
        }
        due.is("told(8)", x.told(8), 0);
        for (int n = 1; n <= 20; n++) {
            due.is("entry " + n, x.write(64000, 64000, 64000), n);
        }
        due.is("full", x.write(0, 0, 0), FULL);
        due.is("outside, ahead of full", x.write(-1, 0, 0), OUTSIDE);
        due.is("told(8)", x.told(8), 20);
        due.is("all are right", x.told(9), NONE);
        due.is("no deed", x.told(10), 0);
    }

    private static void promise17Judged() {
        ShiftGrids x = new ShiftGrids();
        x.grid(NONE, 0, 0, 64, 2, 2);
        x.fill(0, -7, 30);
        due.is("x alone counts", x.write(0, 0, -7), 1);
        due.is("right", x.told(9), NONE);
        for (int n = 2; n < 20; n++) {
            x.write(4096, n, 4089);
        }
        due.is("right", x.told(9), NONE);
        due.is("the last", x.write(4097, 0, MIN), 20);
        due.is("the last is wrong", x.told(9), 19);
        x.fill(0, -8, 30);
        due.is("the first is wrong", x.told(9), 0);
        x.drop(0);
        x.tear();
        due.is("any v", x.write(5, 5, MAX), 1);
        due.is("wrong", x.told(9), 0);
        x.tear();
        due.is("without PLUS", x.write(5000, 5, 5000), 1);
        due.is("right", x.told(9), NONE);
        // By the RULE that is so now.
        x.grid(NONE, 0, 0, 1, 2, 2);
        x.node(0, 1, 1, 64, 0);
        x.write(16, 16, 20);
        due.is("by rule 0", x.told(9), NONE);
        x.rule(2);
        due.is("by rule 2", x.told(9), 1);
        x.rule(1);
        due.is("by rule 1", x.told(9), 1);
    }

    private static void promise18Tear() {
        ShiftGrids x = new ShiftGrids();
        due.is("no entries", x.tear(), 0);
        x.write(1, 1, 0);
        x.write(2, 2, 0);
        due.is("two", x.tear(), 2);
        due.is("told(8)", x.told(8), 0);
        due.is("told(9)", x.told(9), NONE);
        due.is("none again", x.tear(), 0);
        for (int n = 1; n <= 20; n++) {
            due.is("entry " + n, x.write(3, 3, 3), n);
        }
        due.is("the old ones are gone", x.told(9), NONE);
        due.is("twenty", x.tear(), 20);
    }

    private static void promise19Seed() {
        ShiftGrids x = new ShiftGrids();
        due.is("0 at first", x.seed(2147483647), 0);
        due.is("the greatest", x.seed(17), 2147483647);
        due.is("outside", x.seed(-1), OUTSIDE);
        due.is("outside", x.seed(MIN), OUTSIDE);
        due.is("17 still", x.told(11), 17);
        due.is("17", x.seed(0), 17);
        due.is("no deed", x.told(10), 0);
        x.grid(NONE, 0, 0, 1, 2, 2);
        x.drift(1);
        due.is("moved on by draws", x.seed(0), 229283573);
        due.is("seed is not undone", x.undo(2), 0);
        due.is("0", x.told(11), 0);
    }

    private static void promise20Keep() {
        ShiftGrids x = new ShiftGrids();
        for (int i : new int[] {-1, 2, MIN, MAX}) {
            due.is("unknown", x.keep(i), UNKNOWN);
        }
        x.grid(NONE, 0, 0, 1, 2, 2);
        due.is("told(10)", x.told(10), 1);
        due.is("unknown", x.keep(2), UNKNOWN);
        due.is("still to undo", x.told(10), 1);
        due.is("keep 0", x.keep(0), 1);
        due.is("nothing to undo", x.told(10), 0);
        due.is("nothing to undo", x.undo(1), NOT);
        due.is("what is so stays", x.told(0), 1);
        due.is("1 was not kept", x.goBack(1), NOT);
        x.fill(0, 5, 5);
        due.is("only what came since", x.undo(1), 0);
        due.is("told(2)", x.told(2), 0);
        x.fill(0, 6, 6);
        due.is("keep 0 anew", x.keep(0), 1);
        x.fill(0, 7, 7);
        due.is("goBack 0", x.goBack(0), 1);
        due.is("the later one", x.nodeAt(0, 1, 1, 0), PLUS + 6);
        ShiftGrids empty = new ShiftGrids();
        due.is("keep nothing", empty.keep(1), 1);
        empty.grid(NONE, 0, 0, 1, 2, 2);
        due.is("go back to nothing", empty.goBack(1), 1);
        due.is("no grids", empty.told(0), 0);
    }

    private static void promise21GoBack() {
        ShiftGrids x = new ShiftGrids();
        for (int i : new int[] {-1, 2, MIN, MAX}) {
            due.is("unknown", x.goBack(i), UNKNOWN);
        }
        x.grid(NONE, 0, 0, 20, 2, 2);
        x.grid(0, 0, 0, 10, 3, 3);
        x.fill(1, 11, -11);
        x.rule(2);
        x.seed(42);
        x.keep(0);
        x.drop(1);
        x.fill(0, 3, 3);
        x.rule(1);
        x.seed(43);
        x.keep(1);
        x.drop(0);
        x.rule(0);
        x.seed(44);
        due.is("told(10)", x.told(10), 2);
        due.is("not kept as 2", x.goBack(2), UNKNOWN);
        due.is("told(10)", x.told(10), 2);
        due.is("goBack 0", x.goBack(0), 1);
        due.told("image 0", x, 2, 2, 9, 0, 0, 8, 11, 1, 0, NONE, 0, 42);
        due.is("its PARENT", x.gridAt(1, 0), 0);
        due.is("goBack 1", x.goBack(1), 1);
        due.told("image 1", x, 1, 1, 4, 0, 0, 0, 0, NONE, 0, NONE, 0, 43);
        x.fill(0, 9, 9);
        x.drift(2);
        due.is("goBack 1", x.goBack(1), 1);
        due.told("image 1", x, 1, 1, 4, 0, 0, 0, 0, NONE, 0, NONE, 0, 43);
        due.is("its offset", x.nodeAt(0, 0, 0, 0), PLUS + 3);
        due.is("nothing to undo", x.undo(1), NOT);
        due.is("goBack 0", x.goBack(0), 1);
        due.told("image 0", x, 2, 2, 9, 0, 0, 8, 11, 1, 0, NONE, 0, 42);
    }

    private static void promise21BookStays() {
        ShiftGrids x = new ShiftGrids();
        x.write(1, 1, 1);
        x.keep(0);
        x.write(2, 2, 2);
        x.goBack(0);
        due.is("two entries", x.told(8), 2);
        x.tear();
        x.goBack(0);
        due.is("no entries", x.told(8), 0);
    }
}
