import java.lang.reflect.Member;
import java.lang.reflect.Modifier;
import java.nio.file.Files;
import java.nio.file.Path;
import java.util.ArrayList;
import java.util.Arrays;
import java.util.List;
import java.util.TreeSet;
import java.util.regex.Matcher;
import java.util.regex.Pattern;

/** The face of the class, and the rules of ../shared/LANGUAGE.md that can be read from its source or its parts. */
public final class LanguageTest {
    private static final List<String> FACE = List.of(
        "int told(int)", "int gridAt(int, int)", "int nodeAt(int, int, int, int)", "long cellAt(int, int, int, int)",
        "int which(int, int)", "int moved(int, int, int)", "int back(int, int, int)",
        "int grid(int, int, int, int, int, int)", "int node(int, int, int, int, int)", "int fill(int, int, int)", "int fit(int)",
        "int drop(int)", "int rule(int)", "int drift(int)", "int undo(int)", "int write(int, int, int)", "int tear()",
        "int seed(int)", "int keep(int)", "int goBack(int)");
    private static final List<String> CONSTANTS = List.of("NONE", "PLUS", "UNKNOWN", "OUTSIDE", "NOT", "FULL");
    private static final List<String> FORBIDDEN = List.of(
        "throw", "throws", "try", "catch", "finally", "synchronized", "assert", "import", "package", "volatile", "transient", "native",
        "protected", "equals", "hashCode", "toString", "Object", "Exact", "System.out", "Thread", "Random", "->", "::");

    private static final List<String> faults = new ArrayList<>();

    public static void main(String[] args) throws Exception {
        face();
        constants();
        nestedClasses();
        source(Files.readString(Path.of("src/main/java/ShiftGrids.java")));
        faults.forEach(System.out::println);
        System.out.println("LanguageTest: " + faults.size() + " faults");
        if (!faults.isEmpty()) {
            System.exit(1);
        }
    }

    private static void face() {
        TreeSet<String> open = new TreeSet<>();
        TreeSet<String> hidden = new TreeSet<>();
        for (var m : ShiftGrids.class.getDeclaredMethods()) {
            String parameters = String.join(", ", Arrays.stream(m.getParameterTypes()).map(Class::getSimpleName).toList());
            if (Modifier.isPublic(m.getModifiers())) {
                open.add(m.getReturnType().getSimpleName() + " " + m.getName() + "(" + parameters + ")");
                check(!Modifier.isStatic(m.getModifiers()), m.getName() + " is static");
            } else {
                hidden.add(m.getName());
                check(Modifier.isPrivate(m.getModifiers()), m.getName() + " is neither public nor private");
            }
        }
        check(open.equals(new TreeSet<>(FACE)), "the public methods are " + open);
        for (String name : hidden) {
            check(FACE.stream().noneMatch(f -> f.contains(" " + name + "(")), "a private method bears the public name " + name);
        }
        check(Modifier.toString(ShiftGrids.class.getModifiers()).equals("public final"), "the class is not public and final");
        check(ShiftGrids.class.getDeclaredConstructors().length == 1 && ShiftGrids.class.getConstructors().length == 1
            && ShiftGrids.class.getConstructors()[0].getParameterCount() == 0, "not just one public constructor without parameters");
    }

    private static void constants() {
        for (var f : ShiftGrids.class.getDeclaredFields()) {
            if (Modifier.isPublic(f.getModifiers())) {
                check(CONSTANTS.contains(f.getName()) && f.getType() == int.class && isConstant(f), f.getName() + " is no constant of the face");
            } else {
                check(Modifier.isPrivate(f.getModifiers()), f.getName() + " is neither public nor private");
            }
        }
        check(ShiftGrids.class.getFields().length == CONSTANTS.size(), "not all constants are there");
        int[] values = {ShiftGrids.NONE, ShiftGrids.PLUS, ShiftGrids.UNKNOWN, ShiftGrids.OUTSIDE, ShiftGrids.NOT, ShiftGrids.FULL};
        check(Arrays.equals(values, new int[] {-1, 1000000, -1000000001, -1000000002, -1000000003, -1000000004}), "constants have other values");
    }

    private static boolean isConstant(Member m) {
        return Modifier.isStatic(m.getModifiers()) && Modifier.isFinal(m.getModifiers());
    }

    private static void nestedClasses() {
        Class<?>[] nested = ShiftGrids.class.getDeclaredClasses();
        check(nested.length <= 11, "too many classes");
        for (Class<?> c : nested) {
            check(Modifier.isStatic(c.getModifiers()) && !Modifier.isPublic(c.getModifiers()), c.getName() + " is not static, or public");
            int fields = 0;
            for (var f : c.getDeclaredFields()) {
                check(!Modifier.isStatic(f.getModifiers()) || Modifier.isFinal(f.getModifiers()), f + " is static and not final");
                fields += isConstant(f) ? 0 : 1;
            }
            check(fields <= 20, c.getName() + " has " + fields + " fields");
            for (var m : c.getDeclaredMethods()) {
                check(m.getParameterCount() <= 7, m + " has too many parameters");
                check(FACE.stream().noneMatch(f -> f.contains(" " + m.getName() + "(")), m + " bears a public name");
            }
        }
    }

    private static void source(String text) {
        check(text.chars().allMatch(c -> c == '\n' || c >= 32 && c < 127), "a sign beyond 127, a tab or a return");
        String code = text.replaceAll("(?s)/\\*.*?\\*/", "").replaceAll("//[^\n]*", "");
        for (String word : FORBIDDEN) {
            boolean isWord = Character.isLetter(word.charAt(0)) && !word.equals("Exact");
            Pattern p = Pattern.compile(isWord ? "\\b" + Pattern.quote(word) + "\\b" : Pattern.quote(word));
            check(!p.matcher(code).find(), "forbidden: " + word);
        }
        Matcher library = Pattern.compile("\\b(Math|System|Arrays|Integer|Long|String|StringBuilder)\\.(\\w+)").matcher(code);
        while (library.find()) {
            check(List.of("max", "min", "abs", "floorDiv", "floorMod", "arraycopy").contains(library.group(2)), "library: " + library.group());
        }
        lengths(code);
        making(code);
    }

    /** All calls of a run live in one room, so objects and arrays are made with the object and by no call. */
    private static void making(String code) {
        boolean isConstructor = false;
        for (String line : code.split("\n")) {
            if (line.matches(" {4,8}\\S.*\\) \\{")) {
                isConstructor = line.matches(" +(public )?[A-Z]\\w*\\(\\) \\{");
            }
            boolean isField = line.matches(" {8}private final \\S+ \\w+ = new .*;");
            check(!line.contains("new ") || isConstructor || isField, "made outside a constructor: " + line.trim());
        }
    }

    /** A method begins with a line that ends in ") {" at a member's depth, and ends with the brace at the same depth. */
    private static void lengths(String code) {
        int begun = -1;
        String indent = "";
        String[] lines = code.split("\n");
        for (int i = 0; i < lines.length; i++) {
            Matcher head = Pattern.compile("^( {4}| {8})\\w.*\\) \\{$").matcher(lines[i]);
            if (begun < 0 && head.find()) {
                begun = i;
                indent = head.group(1);
            } else if (begun >= 0 && lines[i].equals(indent + "}")) {
                check(i - begun + 1 <= 60, "too long: " + lines[begun]);
                begun = -1;
            }
        }
    }

    private static void check(boolean holds, String fault) {
        if (!holds) {
            faults.add("LanguageTest: " + fault);
        }
    }
}
