import java.util.Arrays;

/** A call as data: it can be told, made again on another object, and made on the model. */
record Call(String name, int... args) {
    private static final String[] NAMES = {"NONE", "MIN", "MAX"};
    private static final int[] VALUES = {-1, Integer.MIN_VALUE, Integer.MAX_VALUE};

    /** Of a text such as "grid(NONE, 0, 0, 64, 5, 5)"; MIN and MAX are the least and the greatest int. */
    static Call of(String text) {
        int open = text.indexOf('(');
        String inside = text.substring(open + 1, text.length() - 1);
        String[] parts = inside.isBlank() ? new String[0] : inside.split(",");
        return new Call(text.substring(0, open), Arrays.stream(parts).mapToInt(p -> number(p.trim())).toArray());
    }

    private static int number(String text) {
        int named = Arrays.asList(NAMES).indexOf(text);
        return named < 0 ? Integer.parseInt(text) : VALUES[named];
    }

    @Override
    public String toString() {
        return name + "(" + String.join(", ", Arrays.stream(args).mapToObj(Integer::toString).toList()) + ")";
    }

    boolean isDeed() {
        return switch (name) {
            case "told", "gridAt", "nodeAt", "cellAt", "which", "moved", "back" -> false;
            default -> true;
        };
    }

    long on(ShiftGrids x) {
        int[] a = args;
        return switch (name) {
            case "told" -> x.told(a[0]);
            case "gridAt" -> x.gridAt(a[0], a[1]);
            case "nodeAt" -> x.nodeAt(a[0], a[1], a[2], a[3]);
            case "cellAt" -> x.cellAt(a[0], a[1], a[2], a[3]);
            case "which" -> x.which(a[0], a[1]);
            case "moved" -> x.moved(a[0], a[1], a[2]);
            case "back" -> x.back(a[0], a[1], a[2]);
            case "grid" -> x.grid(a[0], a[1], a[2], a[3], a[4], a[5]);
            case "node" -> x.node(a[0], a[1], a[2], a[3], a[4]);
            case "fill" -> x.fill(a[0], a[1], a[2]);
            case "fit" -> x.fit(a[0]);
            case "drop" -> x.drop(a[0]);
            case "rule" -> x.rule(a[0]);
            case "drift" -> x.drift(a[0]);
            case "undo" -> x.undo(a[0]);
            case "write" -> x.write(a[0], a[1], a[2]);
            case "tear" -> x.tear();
            case "seed" -> x.seed(a[0]);
            case "keep" -> x.keep(a[0]);
            case "goBack" -> x.goBack(a[0]);
            default -> throw new IllegalArgumentException("no such call: " + name);
        };
    }

    long on(Model x) {
        int[] a = args;
        return switch (name) {
            case "told" -> x.told(a[0]);
            case "gridAt" -> x.gridAt(a[0], a[1]);
            case "nodeAt" -> x.nodeAt(a[0], a[1], a[2], a[3]);
            case "cellAt" -> x.cellAt(a[0], a[1], a[2], a[3]);
            case "which" -> x.which(a[0], a[1]);
            case "moved" -> x.moved(a[0], a[1], a[2]);
            case "back" -> x.back(a[0], a[1], a[2]);
            case "grid" -> x.grid(a[0], a[1], a[2], a[3], a[4], a[5]);
            case "node" -> x.node(a[0], a[1], a[2], a[3], a[4]);
            case "fill" -> x.fill(a[0], a[1], a[2]);
            case "fit" -> x.fit(a[0]);
            case "drop" -> x.drop(a[0]);
            case "rule" -> x.rule(a[0]);
            case "drift" -> x.drift(a[0]);
            case "undo" -> x.undo(a[0]);
            case "write" -> x.write(a[0], a[1], a[2]);
            case "tear" -> x.tear();
            case "seed" -> x.seed(a[0]);
            case "keep" -> x.keep(a[0]);
            case "goBack" -> x.goBack(a[0]);
            default -> throw new IllegalArgumentException("no such call: " + name);
        };
    }
}
