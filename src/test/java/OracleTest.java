import java.util.Random;

/** Long runs of drawn calls, by fixed seeds: every answer of the class against the oracle's. */
public final class OracleTest {
    private static final int RUNS = 400, CALLS = 512;
    private static final int[] WILD = {Integer.MIN_VALUE, Integer.MIN_VALUE + 1, -1000000007, -11, -6, -2, -1, 10, 11, 26, 99,
        100, 127, 401, 9999, 10000, 65537, 999999, 1000000, 214748364, Integer.MAX_VALUE - 20, Integer.MAX_VALUE};

    private final Due due = new Due();
    private Random random;
    private SignedSheets x;
    private Oracle o;
    private int run;
    private int calls;

    public static void main(String[] args) {
        OracleTest t = new OracleTest();
        for (int run = 1; run <= RUNS && t.due.wrongSoFar() < 50; run++) {
            t.one(run);
        }
        t.due.end("OracleTest");
    }

    private void one(int number) {
        run = number;
        random = new Random(number);
        x = new SignedSheets();
        o = new Oracle();
        calls = 0;
        int persons = random.nextInt(7);
        for (int p = 0; p < persons; p++) {
            int sheets = random.nextInt(4) == 0 ? 400 - random.nextInt(5) : random.nextInt(30);
            int tail = random.nextInt(10);
            tell("person", x.person(p, sheets, tail), o.person(p, sheets, tail), p, sheets, tail);
        }
        int kind = number % 5;
        while (calls < CALLS) {
            if (kind == 0) {
                anyCall();
            } else if (kind == 1) {
                if (random.nextInt(3) == 0) anyCall(); else sayAct();
            } else if (kind == 2) {
                lendMuch();
            } else if (kind == 3) {
                habits();
            } else {
                if (random.nextInt(6) == 0) anyCall(); else years();
            }
        }
    }

    private void tell(String name, long got, long want, Object... args) {
        calls++;
        StringBuilder call = new StringBuilder("run " + run + ", call " + calls + ": " + name + "(");
        for (int i = 0; i < args.length; i++) {
            call.append(i == 0 ? "" : ", ").append(args[i]);
        }
        due.is(call.append(")").toString(), got, want);
    }

    /** Mostly in range, sometimes just outside, now and then far outside. */
    private int num(int low, int high) {
        int draw = random.nextInt(40);
        if (draw == 0) return WILD[random.nextInt(WILD.length)];
        if (draw == 1) return low - 1;
        if (draw == 2) return high + 1;
        if (draw == 3) return low;
        if (draw == 4) return high;
        return low + random.nextInt(high - low + 1);
    }

    private int who() {
        return num(0, 5);
    }

    private void sign(int c) {
        tell("say", x.say(c), o.say(c), c);
    }

    private String drawnAct() {
        char a = (char) ('A' + random.nextInt(6));
        char b = (char) ('A' + random.nextInt(6));
        int k = 1 + random.nextInt(random.nextBoolean() ? 9 : 3);
        switch (random.nextInt(8)) {
            case 0: return a + "!" + k;
            case 1: return a + "*";
            case 2: return a + ">" + k + b;
            case 3: return a + "=" + k + b;
            case 4: return a + "<" + k + b;
            case 5: return ".";
            default: return "" + a + k;
        }
    }

    private void ask() {
        int what = num(0, 1);
        tell("fault", x.fault(), o.fault());
        tell("judge", x.judge(what), o.judge(what), what);
        tell("acts", x.acts(what), o.acts(what), what);
        int p = who();
        int h = num(0, 2);
        tell("behind", x.behind(p, h), o.behind(p, h), p, h);
    }

    private void sayAct() {
        String act = drawnAct();
        for (int i = 0; i < act.length(); i++) {
            sign(act.charAt(i));
        }
        ask();
        int draw = random.nextInt(8);
        if (draw < 2) {
            tell("done", x.done(), o.done());
        } else if (draw == 2 || o.judge(0) != Oracle.NONE && draw < 6) {
            tell("wipe", x.wipe(), o.wipe());
        }
    }

    private void lendMuch() {
        char a = (char) ('A' + random.nextInt(6));
        char b = (char) ('A' + random.nextInt(6));
        int times = 1 + random.nextInt(11);
        int k = random.nextBoolean() ? 9 : 1 + random.nextInt(9);
        int sheets = num(350, 400);
        tell("person", x.person(a - 'A', sheets, 1), o.person(a - 'A', sheets, 1), a - 'A', sheets, 1);
        for (int i = 0; i < times; i++) {
            for (char c : ("" + a + "=" + k + b).toCharArray()) {
                sign(c);
            }
        }
        ask();
        tell("done", x.done(), o.done());
        tell("wipe", x.wipe(), o.wipe());
        for (int p = 0; p < 6; p++) {
            tell("netted", x.netted(p), o.netted(p), p);
        }
        tell("hands", x.hands(), o.hands());
        tell("owes", x.owes(b - 'A', a - 'A'), o.owes(b - 'A', a - 'A'), b - 'A', a - 'A');
    }

    private void years() {
        int count = 1 + random.nextInt(60);
        for (int i = 0; i < count; i++) {
            sign('.');
        }
        ask();
        tell("done", x.done(), o.done());
        tell("wipe", x.wipe(), o.wipe());
        tell("told", x.told(2), o.told(2), 2);
        int seed = num(0, 9999);
        int m = num(1, 99);
        int what = num(0, 2);
        tell("book", x.book(seed, m, what), o.book(seed, m, what), seed, m, what);
    }

    private void habits() {
        int n = num(0, 9);
        int m = num(1, 8);
        int w = num(1, 9);
        // what some habit does, so that often one fits
        boolean signed = n > 0 && (w >= run % 10 || random.nextInt(10) == 0);
        tell("seen", x.seen(n, m, w, signed), o.seen(n, m, w, signed), n, m, w, signed);
        tell("signs", x.signs(), o.signs());
        int what = num(0, 1);
        tell("watch", x.watch(what), o.watch(what), what);
        tell("watch", x.watch(1 - (what & 1)), o.watch(1 - (what & 1)), 1 - (what & 1));
        int draw = random.nextInt(6);
        if (draw == 0) {
            tell("forget", x.forget(), o.forget());
        } else if (draw == 1) {
            int k = num(1, 9);
            int v = num(0, 9);
            tell("weight", x.weight(k, v), o.weight(k, v), k, v);
        } else if (draw == 2) {
            anyCall();
        }
    }

    private void anyCall() {
        int a = who();
        int b = who();
        int what = num(0, 1);
        int n = num(0, 9);
        int m = num(0, 8);
        int t = num(0, 10);
        switch (random.nextInt(33)) {
            case 0: { int s = num(0, 400); tell("person", x.person(a, s, n), o.person(a, s, n), a, s, n); break; }
            case 1: tell("die", x.die(a), o.die(a), a); break;
            case 2: { int v = random.nextInt(3) == 0 ? 0 : num(0, 9); tell("weight", x.weight(n, v), o.weight(n, v), n, v); break; }
            case 3: { int c = num(33, 126); tell("say", x.say(c), o.say(c), c); break; }
            case 4: tell("wipe", x.wipe(), o.wipe()); break;
            case 5: case 6: case 7: case 8: sayAct(); break;
            case 9: { int h = num(0, 2); tell("state", x.state(a, h), o.state(a, h), a, h); break; }
            case 10: tell("owes", x.owes(a, b), o.owes(a, b), a, b); break;
            case 11: tell("who", x.who(what), o.who(what), what); break;
            case 12: case 13: tell("best", x.best(n, m, what), o.best(n, m, what), n, m, what); break;
            case 14: tell("least", x.least(n, m), o.least(n, m), n, m); break;
            case 15: tell("price", x.price(n, m, what), o.price(n, m, what), n, m, what); break;
            case 16: { int s = random.nextBoolean() ? n : num(0, 400); int y = num(0, 9);
                tell("last", x.last(s, y, t, what), o.last(s, y, t, what), s, y, t, what); break; }
            case 17: tell("netted", x.netted(a), o.netted(a), a); break;
            case 18: tell("hands", x.hands(), o.hands()); break;
            case 19: case 20: { int tails = tails(); tell("match", x.match(tails, what), o.match(tails, what), tails, what); break; }
            case 21: { int tails = tails(); int i = num(0, 5); tell("wrote", x.wrote(tails, i), o.wrote(tails, i), tails, i); break; }
            case 22: { int c = num(1, 99); tell("compare", x.compare(c), o.compare(c), c); break; }
            case 23: { int k = n >= 0 && n <= 9 ? num(0, n) : num(0, 9); tell("blots", x.blots(n, k, t, what), o.blots(n, k, t, what), n, k, t, what); break; }
            case 24: { boolean s = random.nextBoolean(); int w = num(1, 9); tell("seen", x.seen(n, m, w, s), o.seen(n, m, w, s), n, m, w, s); break; }
            case 25: tell("forget", x.forget(), o.forget()); break;
            case 26: tell("signs", x.signs(), o.signs()); break;
            case 27: tell("watch", x.watch(what), o.watch(what), what); break;
            case 28: case 29: { int s = num(0, 9999); int y = num(1, 99); int h = num(0, 2);
                tell("book", x.book(s, y, h), o.book(s, y, h), s, y, h); break; }
            case 30: tell("image", x.image(what), o.image(what), what); break;
            case 31: tell("restore", x.restore(what), o.restore(what), what); break;
            default: { int w = num(0, 26); tell("told", x.told(w), o.told(w), w); break; }
        }
    }

    private int tails() {
        int bound = 1;
        for (int i = 0; i < o.world.men.size(); i++) {
            bound *= 10;
        }
        return num(0, bound - 1);
    }
}
