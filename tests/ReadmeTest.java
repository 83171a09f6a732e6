import java.net.URL;
import java.net.URLClassLoader;
import java.nio.file.Files;
import java.nio.file.Path;
import java.util.ArrayList;
import java.util.List;
import java.util.Set;
import java.util.TreeSet;
import java.util.concurrent.Callable;
import java.util.regex.Matcher;
import java.util.regex.Pattern;
import java.util.spi.ToolProvider;

/**
 * The example in README.md is compiled and run: each answer that it tells behind "->" must be the one that comes.
 * The calls that its table names are those of the face.
 */
public final class ReadmeTest {
    private static final Pattern LINE = Pattern.compile("(int \\w+ = )?(x\\.[^;]*);\\s*// -> (-?\\d+|true|false)(:.*)?");

    private final List<String> asked = new ArrayList<>();
    private final List<String> due = new ArrayList<>();

    public static void main(String[] args) throws Exception {
        Path readme = Path.of(args[0]).toAbsolutePath().normalize().resolve("../../../../README.md").normalize();
        String all = Files.readString(readme);
        new ReadmeTest().example(all);
        table(all);
        Due.end();
    }

    private void example(String readme) throws Exception {
        Matcher block = Pattern.compile("(?s)```java\n(.*?)```").matcher(readme);
        Due.is("README.md has an example", block.find(), true);
        List<?> got = run(program(block.group(1)));
        Due.is("answers of the example", got.size(), due.size());
        Due.is("there are some", due.size() > 20, true);
        for (int i = 0; i < due.size() && i < got.size(); i++) {
            Due.same("README.md: " + asked.get(i), String.valueOf(got.get(i)), due.get(i));
        }
    }

    /** The lines of the example, each of which puts down its answer. */
    private String program(String lines) {
        StringBuilder b = new StringBuilder();
        b.append("public final class Example implements java.util.concurrent.Callable<java.util.List<Object>> {\n");
        b.append("public java.util.List<Object> call() {\n");
        b.append("java.util.List<Object> got = new java.util.ArrayList<>();\n");
        for (String line : lines.split("\n")) {
            Matcher m = LINE.matcher(line);
            if (!m.matches()) {
                Due.is("README.md tells the answer of '" + line + "'", line.isEmpty() || line.endsWith("new HallGlass();"), true);
                b.append(line).append('\n');
                continue;
            }
            asked.add(m.group(2));
            due.add(m.group(3));
            String declared = m.group(1);
            b.append(declared == null ? "" : declared + m.group(2) + ";\n");
            b.append("got.add(").append(declared == null ? m.group(2) : declared.split(" ")[1]).append(");\n");
        }
        return b.append("return got;\n}\n}\n").toString();
    }

    private static List<?> run(String program) throws Exception {
        Path dir = Files.createTempDirectory("readme");
        Path file = dir.resolve("Example.java");
        Path compiled = dir.resolve("Example.class");
        Files.writeString(file, program);
        try {
            int code = ToolProvider.findFirst("javac").orElseThrow().run(System.out, System.out,
                    "-cp", System.getProperty("java.class.path"), "-d", dir.toString(), file.toString());
            Due.is("the example compiles: exit code", code, 0);
            return code == 0 ? answers(dir) : List.of();
        } finally {
            Files.deleteIfExists(file);
            Files.deleteIfExists(compiled);
            Files.deleteIfExists(dir);
        }
    }

    private static List<?> answers(Path dir) throws Exception {
        try (URLClassLoader loader = new URLClassLoader(new URL[] {dir.toUri().toURL()})) {
            Object it = loader.loadClass("Example").getDeclaredConstructor().newInstance();
            return (List<?>) ((Callable<?>) it).call();
        }
    }

    /** Each call of the face stands in the table once, and nothing else does. */
    private static void table(String readme) {
        List<String> named = new ArrayList<>();
        Matcher rows = Pattern.compile("(?m)^\\|[^|]*\\|([^|]*`[^|]*)\\|[^|]*\\|$").matcher(readme);
        while (rows.find()) {
            Matcher call = Pattern.compile("`(\\w+)`").matcher(rows.group(1));
            while (call.find()) {
                named.add(call.group(1));
            }
        }
        Set<String> face = new TreeSet<>();
        for (var m : HallGlass.class.getMethods()) {
            if (m.getDeclaringClass() == HallGlass.class) {
                face.add(m.getName());
            }
        }
        Due.is("calls named in the table", named.size(), face.size());
        Due.same("the table's calls", new TreeSet<>(named), face);
    }
}
