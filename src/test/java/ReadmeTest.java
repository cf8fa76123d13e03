import java.net.URL;
import java.net.URLClassLoader;
import java.nio.file.Files;
import java.nio.file.Path;
import java.util.ArrayList;
import java.util.List;
import java.util.regex.Matcher;
import java.util.regex.Pattern;
import java.util.stream.Stream;
import javax.tools.ToolProvider;

/** The example of README.md: it compiles as it stands there, and each line answers what is said behind it. */
public final class ReadmeTest {
    private static final String NAME = "ReadmeExample";
    private static final Pattern BLOCK = Pattern.compile("```java\n(.*?)```", Pattern.DOTALL);
    private static final Pattern LINE = Pattern.compile("((?:int|long) (\\w+) = )?(.+);\\s*// (-?\\d+|[A-Z]+)(:.*)?");
    private static final String MADE = "ShiftGrids s = new ShiftGrids();";
    private static final Due due = new Due("ReadmeTest");

    private final List<String> told = new ArrayList<>();
    private final StringBuilder asItStands = new StringBuilder();
    private final StringBuilder held = new StringBuilder();

    public static void main(String[] args) throws Exception {
        Matcher blocks = BLOCK.matcher(Files.readString(Path.of("README.md")));
        int examples = 0;
        while (blocks.find()) {
            examples++;
            new ReadmeTest().holds(blocks.group(1));
        }
        due.is("examples in README.md (1: there are some)", Math.min(examples, 1), 1);
        due.end();
    }

    private void holds(String block) throws Exception {
        for (String line : block.strip().split("\n")) {
            take(line);
        }
        long[] answers = answers();
        due.is("answers of the example", answers.length, 2L * told.size());
        for (int i = 0; i < told.size() && 2 * i + 1 < answers.length; i++) {
            due.is(told.get(i), answers[2 * i], answers[2 * i + 1]);
        }
    }

    private void take(String line) {
        asItStands.append(line).append('\n');
        Matcher m = LINE.matcher(line);
        if (line.equals(MADE)) {
            held.append(line).append('\n');
        } else if (m.matches()) {
            told.add(m.group(3));
            String want = Character.isLetter(m.group(4).charAt(0)) ? "ShiftGrids." + m.group(4) : m.group(4) + "L";
            String got = m.group(1) == null ? m.group(3) : m.group(2);
            held.append(m.group(1) == null ? "" : m.group(1) + m.group(3) + ";");
            held.append("all.add((long) (").append(got).append(")); all.add((long) ").append(want).append(");\n");
        } else {
            due.is("a line without an answer behind it: " + line, 1, 0);
        }
    }

    /** What each line answers, and what is said that it does, in turn; none, if the example does not compile. */
    private long[] answers() throws Exception {
        Path folder = Files.createTempDirectory("readme");
        try {
            Path file = Files.writeString(folder.resolve(NAME + ".java"), "public final class " + NAME + " {\n"
                + "public static void asItStands() {\n" + asItStands + "}\n"
                + "public static java.util.List<Long> answers() {\njava.util.List<Long> all = new java.util.ArrayList<>();\n" + held + "return all;\n}\n}\n");
            String path = System.getProperty("java.class.path");
            if (ToolProvider.getSystemJavaCompiler().run(null, null, null, "-cp", path, "-d", folder.toString(), file.toString()) != 0) {
                return new long[0];
            }
            try (URLClassLoader loader = new URLClassLoader(new URL[] {folder.toUri().toURL()})) {
                List<?> all = (List<?>) loader.loadClass(NAME).getMethod("answers").invoke(null);
                return all.stream().mapToLong(n -> (Long) n).toArray();
            }
        } finally {
            delete(folder);
        }
    }

    private static void delete(Path folder) throws Exception {
        try (Stream<Path> files = Files.list(folder)) {
            for (Path file : files.toList()) {
                Files.delete(file);
            }
        }
        Files.delete(folder);
    }
}
