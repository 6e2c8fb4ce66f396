import java.io.File;
import java.io.PrintWriter;
import java.io.StringWriter;
import java.util.ArrayDeque;
import java.util.Set;
import java.util.TreeMap;
import java.util.TreeSet;
import java.util.regex.Matcher;
import java.util.regex.Pattern;
import java.util.spi.ToolProvider;

/** Rules 4, 6, 8, 11 and 12 of LANGUAGE.md, looked for in the compiled class: who calls whom, what is made, what is thrown. */
public final class CallsTest {
    private static final int MOST_DEEP = 8;
    private static final Set<String> LIBRARY = Set.of("java/lang/Object.<init>", "java/lang/System.arraycopy", "java/lang/Math.max",
        "java/lang/Math.min", "java/lang/Math.abs", "java/lang/Integer.bitCount", "java/lang/Integer.numberOfTrailingZeros");
    private static final Pattern HEAD = Pattern.compile("  (?:[\\w.$\\[\\]]+ )*([\\w$]+)\\(.*\\);");
    private static final Pattern STEP = Pattern.compile(" +\\d+: (\\w+).*");
    private static final Pattern CALLED = Pattern.compile("// (?:Interface)?Method (\\S+):\\(");
    private static final Set<String> MAKING = Set.of("new", "newarray", "anewarray", "multianewarray");
    private static final Set<String> NEVER = Set.of("athrow", "invokedynamic", "checkcast", "monitorenter", "jsr");

    private final Due due = new Due();
    private final TreeMap<String, TreeSet<String>> calls = new TreeMap<>();
    private final TreeMap<String, Integer> depths = new TreeMap<>();

    public static void main(String[] args) throws Exception {
        CallsTest t = new CallsTest();
        File folder = new File(SignedSheets.class.getProtectionDomain().getCodeSource().getLocation().toURI());
        for (File file : folder.listFiles()) {
            if (file.getName().matches("SignedSheets(\\$\\w+)?\\.class")) {
                t.read(file);
            }
        }
        t.due.holds("the methods were read", t.calls.size() > 31 && t.calls.containsKey("SignedSheets.done"));
        for (String method : t.calls.keySet()) {
            int depth = t.depth(method, new ArrayDeque<>());
            t.due.holds(method + " calls " + depth + " deep, " + MOST_DEEP + " at most", depth <= MOST_DEEP);
        }
        t.due.end("CallsTest");
    }

    private void read(File file) {
        String owner = file.getName().replace(".class", "");
        String method = null;
        for (String line : disassembled(file).split("\n")) {
            Matcher head = HEAD.matcher(line);
            Matcher step = STEP.matcher(line);
            if (head.matches()) {
                method = owner + "." + (head.group(1).equals(owner) ? "<init>" : head.group(1));
                calls.putIfAbsent(method, new TreeSet<>());
            } else if (method != null && step.matches()) {
                look(owner, method, step.group(1), line);
            }
            due.holds(owner + ": no catch, no static block", !line.contains("Exception table") && !line.contains("static {}"));
        }
    }

    private static String disassembled(File file) {
        StringWriter text = new StringWriter();
        PrintWriter out = new PrintWriter(text, true);
        ToolProvider.findFirst("javap").orElseThrow().run(out, out, "-p", "-c", file.getPath());
        return text.toString().replace("\r", "");
    }

    private void look(String owner, String method, String step, String line) {
        due.holds(method + " is without " + step, !NEVER.contains(step));
        due.holds(method + " makes nothing", !MAKING.contains(step) || method.endsWith(".<init>"));
        Matcher called = CALLED.matcher(line);
        if (called.find()) {
            String name = called.group(1).replace("\"", "");
            String full = name.contains(".") ? name : owner + "." + name;
            due.holds(method + " calls " + full, full.startsWith("SignedSheets") || LIBRARY.contains(full));
            calls.get(method).add(full);
        }
    }

    private int depth(String method, ArrayDeque<String> open) {
        if (open.contains(method)) {
            due.holds(method + " does not call itself: " + open, false);
            return 0;
        }
        if (depths.containsKey(method)) {
            return depths.get(method);
        }
        open.push(method);
        int deepest = 0;
        for (String called : calls.getOrDefault(method, new TreeSet<>())) {
            deepest = Math.max(deepest, depth(called, open));
        }
        open.pop();
        depths.put(method, deepest + 1);
        return deepest + 1;
    }
}
