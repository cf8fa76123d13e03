import java.lang.reflect.Array;
import java.lang.reflect.Field;
import java.lang.reflect.Modifier;
import java.util.ArrayDeque;
import java.util.Collections;
import java.util.Deque;
import java.util.IdentityHashMap;
import java.util.Set;

/** All calls of a run live in one room: how many objects and arrays, fields and elements one ShiftGrids is, and that calls make no more. */
public final class RoomTest {
    // A thousandth of the room, so that a run could make a thousand objects of the class.
    private static final int MOST_OBJECTS = 600;
    private static final int MOST_PARTS = 7300;
    private static final Due due = new Due("RoomTest");

    private final Set<Object> objects = Collections.newSetFromMap(new IdentityHashMap<>());
    private final Deque<Object> open = new ArrayDeque<>();
    private int parts;

    private RoomTest(Object root) throws Exception {
        meet(root);
        while (!open.isEmpty()) {
            look(open.pop());
        }
    }

    public static void main(String[] args) throws Exception {
        ShiftGrids x = new ShiftGrids();
        RoomTest first = new RoomTest(x);
        System.out.println("RoomTest: " + first.objects.size() + " objects and arrays, " + first.parts + " fields and elements");
        due.is("too many objects and arrays", Math.max(first.objects.size(), MOST_OBJECTS), MOST_OBJECTS);
        due.is("too many fields and elements", Math.max(first.parts, MOST_PARTS), MOST_PARTS);
        int calls = 0;
        while (calls <= 512 - Scenes.FULL.length) {
            for (String text : Scenes.FULL) {
                Call.of(text).on(x);
                calls++;
            }
        }
        RoomTest last = new RoomTest(x);
        due.is("objects and arrays behind " + calls + " calls", last.objects.size(), first.objects.size());
        due.is("fields and elements behind them", last.parts, first.parts);
        due.is("objects and arrays that were there at first", last.objects.stream().filter(first.objects::contains).count(), first.objects.size());
        due.end();
    }

    private void meet(Object o) {
        if (o != null && objects.add(o)) {
            open.push(o);
        }
    }

    private void look(Object o) throws Exception {
        if (o.getClass().isArray()) {
            parts += Array.getLength(o);
            for (int i = 0; !o.getClass().getComponentType().isPrimitive() && i < Array.getLength(o); i++) {
                meet(Array.get(o, i));
            }
            return;
        }
        for (Field f : o.getClass().getDeclaredFields()) {
            if (!Modifier.isStatic(f.getModifiers())) {
                parts++;
                f.setAccessible(true);
                Object value = f.get(o);
                if (!f.getType().isPrimitive()) {
                    meet(value);
                }
            }
        }
    }
}
