import java.lang.reflect.Field;
import java.lang.reflect.Method;
import java.lang.reflect.Modifier;
import java.util.ArrayList;
import java.util.Arrays;
import java.util.List;
import java.util.TreeSet;

/** "The public face": the class, its constants, its constructor and its methods, and nothing else that can be seen from outside. */
public final class FaceTest {
    private static final List<String> METHODS = List.of(
        "public int told(int)", "public int gridAt(int, int)", "public int nodeAt(int, int, int, int)", "public long cellAt(int, int, int, int)",
        "public int which(int, int)", "public int moved(int, int, int)", "public int back(int, int, int)",
        "public int grid(int, int, int, int, int, int)", "public int node(int, int, int, int, int)", "public int fill(int, int, int)", "public int fit(int)",
        "public int drop(int)", "public int rule(int)", "public int drift(int)", "public int undo(int)", "public int write(int, int, int)", "public int tear()",
        "public int seed(int)", "public int keep(int)", "public int goBack(int)");
    private static final List<String> CONSTANTS = List.of(
        "public static final int NONE = -1", "public static final int PLUS = 1000000", "public static final int UNKNOWN = -1000000001",
        "public static final int OUTSIDE = -1000000002", "public static final int NOT = -1000000003", "public static final int FULL = -1000000004");

    private static final List<String> faults = new ArrayList<>();

    public static void main(String[] args) throws Exception {
        itself();
        methods();
        fields();
        nestedClasses();
        faults.forEach(f -> System.out.println("FaceTest: " + f));
        System.out.println("FaceTest: " + faults.size() + " faults");
        if (!faults.isEmpty()) {
            System.exit(1);
        }
    }

    private static void itself() {
        Class<?> c = ShiftGrids.class;
        check(Modifier.toString(c.getModifiers()).equals("public final") && c.getTypeParameters().length == 0, "the class is not just public and final");
        check(c.getSuperclass() == Object.class && c.getInterfaces().length == 0, "the class is a kind of another one");
        check(c.getPackageName().isEmpty(), "the class has a package");
        check(c.getDeclaredConstructors().length == 1, "not just one constructor");
        check(Arrays.stream(c.getDeclaredConstructors()).allMatch(k -> k.toString().equals("public ShiftGrids()")), "the constructor is another one");
    }

    private static void methods() {
        TreeSet<String> open = new TreeSet<>();
        TreeSet<String> names = new TreeSet<>();
        for (Method m : ShiftGrids.class.getDeclaredMethods()) {
            if (Modifier.isPublic(m.getModifiers())) {
                open.add(told(m));
                names.add(m.getName());
            }
        }
        check(open.equals(new TreeSet<>(METHODS)), "the public methods are " + open);
        for (Method m : ShiftGrids.class.getDeclaredMethods()) {
            check(Modifier.isPublic(m.getModifiers()) || Modifier.isPrivate(m.getModifiers()), m + " is neither public nor private");
            check(Modifier.isPublic(m.getModifiers()) || !names.contains(m.getName()), m + " bears a public name");
        }
        for (Class<?> nested : ShiftGrids.class.getDeclaredClasses()) {
            for (Method m : nested.getDeclaredMethods()) {
                check(!names.contains(m.getName()), m + " bears a public name");
            }
        }
    }

    private static String told(Method m) {
        String parameters = String.join(", ", Arrays.stream(m.getParameterTypes()).map(Class::getSimpleName).toList());
        String thrown = String.join("", Arrays.stream(m.getExceptionTypes()).map(e -> " throws " + e.getName()).toList());
        return Modifier.toString(m.getModifiers()) + " " + m.getReturnType().getSimpleName() + " " + m.getName() + "(" + parameters + ")" + thrown;
    }

    private static void fields() throws Exception {
        TreeSet<String> open = new TreeSet<>();
        for (Field f : ShiftGrids.class.getDeclaredFields()) {
            if (Modifier.isPublic(f.getModifiers())) {
                open.add(Modifier.toString(f.getModifiers()) + " " + f.getType() + " " + f.getName() + " = " + f.get(null));
            } else {
                check(Modifier.isPrivate(f.getModifiers()), f + " is neither public nor private");
            }
        }
        check(open.equals(new TreeSet<>(CONSTANTS)), "the constants are " + open);
    }

    private static void nestedClasses() {
        for (Class<?> c : ShiftGrids.class.getDeclaredClasses()) {
            int m = c.getModifiers();
            check(Modifier.isStatic(m) && !Modifier.isPublic(m) && !Modifier.isProtected(m), c + " is not static, or can be seen from outside");
        }
    }

    private static void check(boolean holds, String fault) {
        if (!holds) {
            faults.add(fault);
        }
    }
}
