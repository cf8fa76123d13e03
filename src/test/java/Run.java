import java.util.ArrayList;
import java.util.List;

/**
 * A run of calls on one new object. Every answer is held against the due one; of a refused call also that nothing has
 * changed: neither what is so, nor what each undo leads to, nor either image.
 */
final class Run {
    static final int NONE = -1, PLUS = 1000000, UNKNOWN = -1000000001, OUTSIDE = -1000000002, NOT = -1000000003, FULL = -1000000004;

    private static final int MOST_CALLS = 512;
    private static final int LAST_REFUSAL = -1000000001;

    private final Due due;
    private final ShiftGrids object = new ShiftGrids();
    private final List<Call> changed = new ArrayList<>();
    private int calls;
    private List<List<Long>> sightsNow;

    Run(Due due, String... begun) {
        this.due = due;
        does(begun);
    }

    /** Calls whose answers are not looked at, but for that none of them is a refusal. */
    Run does(String... texts) {
        for (String text : texts) {
            Call call = Call.of(text);
            long answer = make(call);
            due.is(told(call) + " is refused", answer <= LAST_REFUSAL ? answer : 0, 0);
            remember(call);
        }
        return this;
    }

    /** A call that is answered, not refused. */
    Run is(String text, long want) {
        Call call = Call.of(text);
        due.is(told(call), make(call), want);
        remember(call);
        return this;
    }

    /** told(0), told(1) and on. */
    Run told(long... want) {
        for (int what = 0; what < want.length; what++) {
            is("told(" + what + ")", want[what]);
        }
        return this;
    }

    /** A place: the grid it belongs to, and where it comes to, without PLUS. */
    Run place(int x, int y, int which, int movedX, int movedY) {
        return is("which(" + x + ", " + y + ")", which)
            .is("moved(" + x + ", " + y + ", 0)", movedX + PLUS).is("moved(" + x + ", " + y + ", 1)", movedY + PLUS);
    }

    /** A new place: KIND, ROUNDS and the last guess, without PLUS. */
    Run back(int x, int y, int kind, int rounds, int lastX, int lastY) {
        String at = "back(" + x + ", " + y + ", ";
        return is(at + "0)", kind).is(at + "1)", rounds).is(at + "2)", lastX + PLUS).is(at + "3)", lastY + PLUS);
    }

    /** Calls that are all refused in this way; none of them changes anything. */
    Run refuses(long refusal, String... texts) {
        for (String text : texts) {
            due.is(told(Call.of(text)), make(Call.of(text)), refusal);
            changesNothing(text);
        }
        return this;
    }

    /** That a call, answered or refused, changes nothing. */
    Run changesNothing(String text) {
        Call call = Call.of(text);
        if (sightsNow == null) {
            sightsNow = sights(List.of());
        }
        due.is(told(call) + " has changed something (1)", sights(List.of(call)).equals(sightsNow) ? 0 : 1, 0);
        return this;
    }

    private long make(Call call) {
        calls++;
        if (calls > MOST_CALLS) {
            throw new IllegalStateException("beyond the calls for which an object is used: " + call);
        }
        return call.on(object);
    }

    private void remember(Call call) {
        if (call.isDeed()) {
            changed.add(call);
            sightsNow = null;
        }
    }

    private String told(Call call) {
        return "after " + changed + " " + call;
    }

    /** What can be seen behind the run and these calls: as it is, behind each undo, and behind each image. */
    private List<List<Long>> sights(List<Call> more) {
        List<List<Long>> all = new ArrayList<>();
        all.add(sight(more, null));
        for (int n = 1; n <= 16; n++) {
            all.add(sight(more, new Call("undo", n)));
        }
        all.add(sight(more, new Call("goBack", 0)));
        all.add(sight(more, new Call("goBack", 1)));
        return all;
    }

    private List<Long> sight(List<Call> more, Call last) {
        ShiftGrids x = new ShiftGrids();
        int made = 0;
        for (Call call : changed) {
            call.on(x);
            made++;
        }
        for (Call call : more) {
            call.on(x);
            made++;
        }
        List<Long> seen = new ArrayList<>();
        if (last != null) {
            seen.add(last.on(x));
        }
        if (last == null || seen.get(0) > LAST_REFUSAL) {
            look(x, seen);
        }
        int twice = 1 + 2 * 6;
        if (made + seen.size() + twice > MOST_CALLS) {
            throw new IllegalStateException("too long to be looked at: " + changed);
        }
        return seen;
    }

    private static void look(ShiftGrids x, List<Long> seen) {
        for (int what = 0; what <= 11; what++) {
            seen.add((long) x.told(what));
        }
        int grids = x.told(0);
        for (int g = 0; g < grids && g < 6; g++) {
            lookAtGrid(x, g, seen);
        }
    }

    private static void lookAtGrid(ShiftGrids x, int g, List<Long> seen) {
        for (int what = 0; what <= 10; what++) {
            seen.add((long) x.gridAt(g, what));
        }
        int columns = x.gridAt(g, 4);
        int rows = x.gridAt(g, 5);
        for (int r = 0; r < rows && r < 5; r++) {
            for (int c = 0; c < columns && c < 5; c++) {
                seen.add((long) x.nodeAt(g, c, r, 0));
                seen.add((long) x.nodeAt(g, c, r, 1));
            }
        }
    }
}
