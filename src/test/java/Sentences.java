import java.lang.reflect.InvocationTargetException;
import java.lang.reflect.Method;
import java.util.ArrayList;
import java.util.HashMap;
import java.util.List;
import java.util.Map;

/**
 * Runs of calls on a new object, told as rows of text under the sentence of the document that they try.
 * A row is a call and, behind "->", the answer that is due: "person 0 10 3 -> 1". A call's arguments are numbers,
 * MIN, MAX, true, false or a sign as 'A'; an answer is a number, a name of the face, LOST+OUTSIDE, "fine" (not refused)
 * or a fraction as 55/9 (the call is then made with part 0 and with part 1). "pad A1." wipes and says these signs,
 * "pad . x 60" says them so many times; "live A1 -> 1" does likewise, and then done. What begins with # is a remark.
 * Behind each call that is to be refused all is looked at, and must be as it would be without that call;
 * likewise at the end as it would be without the calls that only ask; and who asks twice is answered the same.
 */
final class Sentences {
    /** A life in which each call has something that it could spoil: both IMAGES are kept and unlike, the PAD can be DONE. */
    static final String FULL_LIFE = """
        person 0 120 3
        person 1 40 7
        person 2 0 5
        person 4 400 9
        live A=3BB!4A5.E=9A
        weight 3 7
        weight 9 0
        seen 1 2 4 false
        image 0
        live C!2.B9
        weight 5 4
        seen 8 8 1 true
        image 1
        live A=5E.
        weight 1 3
        seen 2 6 7 true
        pad A2B*C!1A>2C.
        """;
    private static final int CALLS = 512;
    private static final String REFUSALS = " UNKNOWN OUTSIDE NO STATE FULL LOST+OUTSIDE ";
    private static final String ASKING = " fault judge state behind acts owes who best least price last netted hands match wrote"
        + " compare blots signs watch book told ";

    private record Call(String name, Object[] args, String want) { }

    private final Due due = new Due();
    private final Map<String, Method> face = new HashMap<>();
    private final List<List<Call>> looks = new ArrayList<>();
    private int sentences = 0;

    Sentences() {
        for (Method m : SignedSheets.class.getDeclaredMethods()) {
            if ((m.getModifiers() & java.lang.reflect.Modifier.PUBLIC) != 0) {
                face.put(m.getName(), m);
            }
        }
        looks.add(parsed(lookAtAll()));
        looks.add(parsed(lookAtPad()));
        looks.add(parsed("restore 0\n" + lookAtAll()));
        looks.add(parsed("restore 1\n" + lookAtAll()));
    }

    /** A run of its own, on a new object. */
    void says(String sentence, String rows) {
        sentences++;
        List<Call> calls = parsed(rows);
        SignedSheets x = new SignedSheets();
        for (int i = 0; i < calls.size(); i++) {
            Call call = calls.get(i);
            judge(sentence + ", call " + (i + 1) + ", " + written(call), answer(x, call), call.want);
        }
        due.holds(sentence + ": has at most 512 calls", calls.size() <= CALLS);
        for (int i = 0; i < calls.size(); i++) {
            if (isRefusal(calls.get(i).want)) {
                List<Call> ahead = calls.subList(0, i);
                String call = written(calls.get(i));
                due.holds(sentence + ": there is room for all of the look behind the refused " + call, i + 1 + longestLook() <= CALLS);
                samePast(sentence + ": behind the refused " + call, calls.subList(0, i + 1), ahead);
            }
        }
        samePast(sentence + ": without asking", calls, calls.stream().filter(c -> !isAsking(c)).toList());
        askTwice(sentence, calls);
    }

    /** In the call one number stands as ?: it is fine from low to high, and refused on either side. */
    void limits(String sentence, String call, int low, int high, String refusal) {
        for (int fine : new int[] {low, high}) {
            says(sentence + ": still fine", FULL_LIFE + call.replace("?", "" + fine) + " -> fine");
        }
        for (int wrong : new int[] {low - 1, high + 1, Integer.MIN_VALUE, Integer.MAX_VALUE}) {
            says(sentence + ": refused", FULL_LIFE + call.replace("?", "" + wrong) + " -> " + refusal);
        }
    }

    void end(String test) {
        due.end(test + ", " + sentences + " runs");
    }

    private static boolean isRefusal(String want) {
        return want != null && REFUSALS.contains(" " + want + " ");
    }

    private void judge(String what, long got, String want) {
        if (want == null) {
            return;
        }
        if (want.equals("fine")) {
            due.holds(what + " answered " + got + ": is not refused", got >= 0 || got == SignedSheets.NONE);
        } else {
            due.is(what, got, number(want));
        }
    }

    private int longestLook() {
        return looks.stream().mapToInt(List::size).max().getAsInt();
    }

    private static boolean isAsking(Call call) {
        return ASKING.contains(" " + call.name + " ");
    }

    /** All is the same behind the one run and behind the other. */
    private void samePast(String what, List<Call> one, List<Call> other) {
        for (List<Call> look : looks) {
            SignedSheets x = behindAll(one);
            SignedSheets y = behindAll(other);
            // an object is used for no more than 512 calls: a long run leaves no room for all of the look
            int room = CALLS - Math.max(one.size(), other.size());
            for (Call call : look.subList(0, Math.max(0, Math.min(room, look.size())))) {
                due.is(what + ", " + written(call), answer(x, call), answer(y, call));
            }
        }
    }

    private SignedSheets behindAll(List<Call> calls) {
        SignedSheets x = new SignedSheets();
        for (Call call : calls) {
            answer(x, call);
        }
        return x;
    }

    private void askTwice(String sentence, List<Call> calls) {
        SignedSheets x = new SignedSheets();
        int left = CALLS - calls.size();
        for (Call call : calls) {
            long got = answer(x, call);
            if (isAsking(call) && left > 0) {
                left--;
                due.is(sentence + ", asked twice: " + written(call), answer(x, call), got);
            }
        }
    }

    private long answer(SignedSheets x, Call call) {
        try {
            return ((Number) face.get(call.name).invoke(x, call.args)).longValue();
        } catch (InvocationTargetException e) {
            due.holds(written(call) + " threw " + e.getCause(), false);
            return Long.MIN_VALUE;
        } catch (IllegalAccessException e) {
            throw new IllegalStateException(e);
        }
    }

    private static String lookAtAll() {
        StringBuilder rows = new StringBuilder();
        for (int what = 0; what <= 25; what++) {
            rows.append("told ").append(what).append('\n');
        }
        lookAtPeople(rows, "state");
        return rows.append("hands\nwho 0\nwho 1\nsigns\nwatch 0\nwatch 1\nbest 3 8 0\nbest 3 8 1\nleast 3 8\nbook 5 40 0\n").toString();
    }

    private static String lookAtPad() {
        StringBuilder rows = new StringBuilder("fault\njudge 0\njudge 1\nacts 0\nacts 1\n");
        lookAtPeople(rows, "behind");
        rows.append("done\ntold 0\ntold 2\n");
        lookAtPeople(rows, "state");
        return rows.append("say 'A'\nsay '1'\nfault\njudge 0\n").toString();
    }

    private static void lookAtPeople(StringBuilder rows, String call) {
        for (int p = 0; p <= 5; p++) {
            for (int what = 0; what <= 2; what++) {
                rows.append(call).append(' ').append(p).append(' ').append(what).append('\n');
            }
            for (int q = 0; q <= 5; q++) {
                rows.append("owes ").append(p).append(' ').append(q).append('\n');
            }
        }
    }

    private List<Call> parsed(String rows) {
        List<Call> calls = new ArrayList<>();
        for (String line : rows.split("\n")) {
            String row = line.strip();
            if (!row.isEmpty() && row.charAt(0) != '#') {
                int arrow = row.indexOf(" -> ");
                String want = arrow < 0 ? null : row.substring(arrow + 4);
                addCalls(calls, (arrow < 0 ? row : row.substring(0, arrow)).split(" "), want);
            }
        }
        return calls;
    }

    private void addCalls(List<Call> calls, String[] words, String want) {
        if (words[0].equals("pad") || words[0].equals("live")) {
            calls.add(new Call("wipe", new Object[0], null));
            int times = words.length == 4 ? Integer.parseInt(words[3]) : 1;
            for (char c : (words.length == 1 ? "" : words[1].repeat(times)).toCharArray()) {
                calls.add(new Call("say", new Object[] {(int) c}, null));
            }
            if (words[0].equals("live")) {
                calls.add(new Call("done", new Object[0], want));
            }
            return;
        }
        if (!face.containsKey(words[0])) {
            throw new IllegalArgumentException("no such call: " + words[0]);
        }
        int slash = want == null ? -1 : want.indexOf('/');
        if (slash < 0) {
            calls.add(new Call(words[0], arguments(words, words.length - 1), want));
            return;
        }
        for (int part = 0; part <= 1; part++) {
            Object[] args = arguments(words, words.length);
            args[words.length - 1] = part;
            calls.add(new Call(words[0], args, part == 0 ? want.substring(0, slash) : want.substring(slash + 1)));
        }
    }

    private static Object[] arguments(String[] words, int length) {
        Object[] args = new Object[length];
        for (int i = 1; i < words.length; i++) {
            String word = words[i];
            if (word.equals("true") || word.equals("false")) {
                args[i - 1] = word.equals("true");
            } else if (word.charAt(0) == '\'') {
                args[i - 1] = (int) word.charAt(1);
            } else {
                args[i - 1] = word.equals("MIN") ? Integer.MIN_VALUE : word.equals("MAX") ? Integer.MAX_VALUE : Integer.parseInt(word);
            }
        }
        return args;
    }

    private static long number(String want) {
        switch (want) {
            case "UNKNOWN": return -1;
            case "OUTSIDE": return -2;
            case "STATE": return -3;
            case "FULL": return -4;
            case "NO": return -5;
            case "NONE": return -6;
            case "LOST+OUTSIDE": return -1000000000000000002L;
            default: return Long.parseLong(want);
        }
    }

    private static String written(Call call) {
        StringBuilder text = new StringBuilder(call.name).append('(');
        for (int i = 0; i < call.args.length; i++) {
            text.append(i == 0 ? "" : ", ").append(call.args[i]);
        }
        return text.append(')').toString();
    }
}
