import java.io.PrintWriter;
import java.io.StringWriter;
import java.io.File;
import java.nio.file.Path;
import java.util.ArrayList;
import java.util.HashMap;
import java.util.List;
import java.util.Map;
import java.util.Set;
import java.util.TreeSet;
import java.util.regex.Matcher;
import java.util.regex.Pattern;
import java.util.spi.ToolProvider;

/**
 * What the compiled class tells of LANGUAGE.md: which library calls there are (rule 4), that nothing is caught and
 * only one kind of exception made (rule 6), that no call goes round to itself (rule 8) or too deep (rule 11), and
 * which calls make objects (rule 12).
 */
public final class CallsTest {
    private static final int MOST_DEEP = 8;
    private static final Set<String> LIBRARY = Set.of("java/lang/Object.<init>", "java/lang/Integer.bitCount",
            "java/lang/Math.abs", "java/lang/Math.max", "java/lang/Math.min", "java/lang/String.indexOf",
            "java/lang/System.arraycopy", "java/util/NoSuchElementException.<init>");
    /** Beside the constructors, which make what an object holds; codeRead copies the code of a SIGN. */
    private static final Set<String> MAKERS = Set.of("HallGlass.glass", "HallGlass.omen", "HallGlass.person",
            "HallGlass$Text.codeRead");
    private static final Pattern CLASS = Pattern.compile("^(?:[a-z]+ )*class (\\S+)");
    private static final Pattern METHOD = Pattern.compile("^  (?:\\S+ )*(\\S+?)\\(.*\\)(?: throws \\S+)?;$");
    private static final Pattern CALL = Pattern.compile("// (?:Interface)?Method (?:(\\S+?)\\.)?\"?([\\w<>]+)\"?:");
    private static final Pattern MADE = Pattern.compile("^ *\\d+: (new|newarray|anewarray|multianewarray) .*?(?:// class (\\S+))?$");

    private final Map<String, List<String>> calls = new HashMap<>();
    private final Map<String, Integer> depths = new HashMap<>();
    private String owner = "";
    private String method = "";

    public static void main(String[] args) throws Exception {
        CallsTest test = new CallsTest();
        for (String line : disassembled().split("\n")) {
            test.read(line);
        }
        Due.is("calls were read", test.calls.size() > 100, true);
        for (String name : test.calls.keySet()) {
            Due.is(name + " goes at most " + MOST_DEEP + " deep", test.depth(name, new ArrayList<>()) <= MOST_DEEP, true);
        }
        Due.end();
    }

    private static String disassembled() throws Exception {
        Path classes = Path.of(HallGlass.class.getProtectionDomain().getCodeSource().getLocation().toURI());
        List<String> a = new ArrayList<>(List.of("-p", "-c"));
        for (File f : classes.toFile().listFiles()) {
            if (f.getName().matches("HallGlass(\\$.*)?\\.class")) {
                a.add(f.getPath());
            }
        }
        StringWriter out = new StringWriter();
        PrintWriter to = new PrintWriter(out);
        int code = ToolProvider.findFirst("javap").orElseThrow().run(to, to, a.toArray(new String[0]));
        Due.is("javap: exit code", code, 0);
        return out.toString().replace("\r", "");
    }

    private void read(String line) {
        Matcher c = CLASS.matcher(line);
        Matcher m = METHOD.matcher(line);
        if (c.find()) {
            owner = c.group(1).replace('.', '/');
        } else if (m.matches()) {
            method = owner + "." + m.group(1);
            calls.putIfAbsent(method, new ArrayList<>());
        } else if (line.trim().equals("Exception table:")) {
            Due.same("what is caught in " + method, "something", "nothing");
        }
        Matcher made = MADE.matcher(line);
        if (made.matches()) {
            made(made.group(2));
        }
        Matcher call = CALL.matcher(line);
        if (call.find()) {
            call(call.group(1) == null ? owner : call.group(1), call.group(2));
        }
    }

    private void made(String of) {
        boolean constructs = method.equals(owner + "." + owner);
        boolean throwing = "java/util/NoSuchElementException".equals(of);
        Due.is(method + " may make objects", constructs || throwing || MAKERS.contains(method), true);
    }

    private void call(String of, String name) {
        if (of.startsWith("java/")) {
            Due.is(method + " may call " + of + "." + name, LIBRARY.contains(of + "." + name), true);
        } else {
            calls.get(method).add(of + "." + (name.equals("<init>") ? of : name));
        }
    }

    private int depth(String name, List<String> open) {
        if (open.contains(name)) {
            Due.same(name + " goes round by way of", open.toString(), "nothing");
            return 1;
        }
        Integer known = depths.get(name);
        if (known != null) {
            return known;
        }
        open.add(name);
        int deepest = 0;
        for (String next : new TreeSet<>(calls.getOrDefault(name, List.of()))) {
            deepest = Math.max(deepest, depth(next, open));
        }
        open.remove(name);
        depths.put(name, deepest + 1);
        return deepest + 1;
    }
}
