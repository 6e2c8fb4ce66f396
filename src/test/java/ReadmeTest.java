import java.io.File;
import java.lang.reflect.Method;
import java.lang.reflect.Modifier;
import java.nio.file.Files;
import java.nio.file.Path;
import java.util.ArrayList;
import java.util.List;
import java.util.TreeSet;
import java.util.regex.Matcher;
import java.util.regex.Pattern;

/** That README.md is true: its run of calls is made, its tables are looked at; run from the project's folder. */
public final class ReadmeTest {
    private static final Pattern MADE = Pattern.compile("SignedSheets x = new SignedSheets\\(\\);");
    private static final Pattern WRITE = Pattern.compile("write\\(x, \"([!-~]*)\"\\);.*");
    private static final Pattern CALL = Pattern.compile("x\\.(\\w+)\\((.*)\\); +// (-?\\d+|LOST \\+ [A-Z]+|[A-Z]+)(:.*)?");
    private static final Pattern REFUSAL = Pattern.compile("\\| `([A-Z]+)` \\| (-?\\d+) \\|.*");
    private static final Pattern ACT = Pattern.compile("\\| `(A.*|\\.)` \\|.*");
    private static final Pattern NUMBERED = Pattern.compile("`([A-Z]+)` \\((-\\d+)\\)");

    private final Due due = new Due();
    private final TreeSet<String> called = new TreeSet<>();
    private SignedSheets x;
    private int calls;

    public static void main(String[] args) throws Exception {
        ReadmeTest t = new ReadmeTest();
        String page = Files.readString(Path.of("README.md"));
        t.run(page);
        t.tables(page);
        t.namesOfTests(page);
        t.due.end("ReadmeTest");
    }

    private void run(String page) throws Exception {
        for (String row : rowsOfJava(page)) {
            Matcher write = WRITE.matcher(row);
            Matcher call = CALL.matcher(row);
            if (MADE.matcher(row).matches()) {
                due.holds("one object only is made", x == null);
                x = new SignedSheets();
            } else if (x != null && write.matches()) {
                write(write.group(1));
            } else if (x != null && call.matches()) {
                due.is(row, answer(call.group(1), call.group(2)), valueOf(call.group(3)));
            } else {
                due.holds("this row can be read: " + row, false);
            }
        }
        due.holds("512 calls at most", calls <= 512);
        for (Method m : SignedSheets.class.getDeclaredMethods()) {
            due.holds(m.getName() + " is called", !Modifier.isPublic(m.getModifiers()) || called.contains(m.getName()));
        }
    }

    private static List<String> rowsOfJava(String page) {
        List<String> rows = new ArrayList<>();
        boolean inside = false;
        for (String row : page.split("\n")) {
            if (row.startsWith("```")) {
                inside = row.equals("```java");
            } else if (inside) {
                rows.add(row.strip());
            }
        }
        return rows;
    }

    private void write(String text) {
        for (char sign : text.toCharArray()) {
            calls++;
            due.holds("write " + text + ": there is room", x.say(sign) > 0);
        }
    }

    private long answer(String name, String args) throws Exception {
        calls++;
        called.add(name);
        String[] words = args.isEmpty() ? new String[0] : args.split(", ");
        for (Method m : SignedSheets.class.getMethods()) {
            if (m.getName().equals(name) && m.getParameterCount() == words.length) {
                Object[] values = new Object[words.length];
                for (int i = 0; i < words.length; i++) {
                    values[i] = argument(words[i]);
                }
                return ((Number) m.invoke(x, values)).longValue();
            }
        }
        due.holds("there is a call " + name + "(" + args + ")", false);
        return 0;
    }

    private static Object argument(String word) {
        if (word.equals("true") || word.equals("false")) {
            return Boolean.valueOf(word);
        }
        return word.startsWith("'") ? (int) word.charAt(1) : Integer.valueOf(word);
    }

    private static long valueOf(String word) throws Exception {
        if (word.startsWith("LOST + ")) {
            return SignedSheets.LOST + constant(word.substring(7));
        }
        return Character.isLetter(word.charAt(0)) ? constant(word) : Long.parseLong(word);
    }

    private static long constant(String name) throws Exception {
        return SignedSheets.class.getField(name).getLong(null);
    }

    private void tables(String page) throws Exception {
        int refusals = 0;
        int acts = 0;
        for (String row : page.split("\n")) {
            Matcher refusal = REFUSAL.matcher(row);
            Matcher act = ACT.matcher(row);
            if (refusal.matches()) {
                refusals++;
                due.is(row, constant(refusal.group(1)), Long.parseLong(refusal.group(2)));
            } else if (act.matches()) {
                acts++;
                x = new SignedSheets();
                write(act.group(1));
                due.is("fault of " + act.group(1), x.fault(), SignedSheets.NONE);
            }
        }
        due.is("refusals told", refusals, 5);
        due.is("kinds of acts told", acts, 7);
        Matcher numbered = NUMBERED.matcher(page);
        int others = 0;
        while (numbered.find()) {
            others++;
            due.is(numbered.group(), constant(numbered.group(1)), Long.parseLong(numbered.group(2)));
        }
        due.is("LOST and NONE with their numbers", others, 2);
    }

    private void namesOfTests(String page) {
        TreeSet<String> there = new TreeSet<>();
        for (String file : new File("src/test/java").list()) {
            String name = file.replace(".java", "");
            there.add(name);
            due.holds(name + " is named", page.contains("`" + name + "`"));
        }
        Matcher named = Pattern.compile("`(\\w+Test)`").matcher(page);
        while (named.find()) {
            due.holds(named.group(1) + " is there", there.contains(named.group(1)));
        }
        due.holds(".ci/run is named", page.contains("    .ci/run\n"));
        due.holds(".ci/run can be run", new File(".ci/run").canExecute());
    }
}
