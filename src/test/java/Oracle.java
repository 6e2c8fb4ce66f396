import java.math.BigInteger;
import java.util.ArrayList;
import java.util.HashMap;
import java.util.List;
import java.util.Map;
import java.util.TreeMap;
import java.util.regex.Matcher;
import java.util.regex.Pattern;

/** The document once more, by other means than the class: whole searches, fractions, patterns. */
final class Oracle {
    static final int NONE = -6, UNKNOWN = -1, OUTSIDE = -2, STATE = -3, FULL = -4, NO = -5;
    static final long REFUSED = -1000000000000000002L;
    private static final Pattern ACT = Pattern.compile("[A-F](?:[1-9*]|![1-9]|[>=<][1-9][A-F])|\\.");
    private static final Pattern LIVES = Pattern.compile("(?:" + ACT + ")*");

    static final class Man {
        int sheets, tail, worth, forged;

        Man copy() {
            Man m = new Man();
            m.sheets = sheets;
            m.tail = tail;
            m.worth = worth;
            m.forged = forged;
            return m;
        }
    }

    static final class Fraction {
        final BigInteger upper, lower;

        Fraction(BigInteger upper, BigInteger lower) {
            BigInteger g = upper.gcd(lower);
            this.upper = upper.divide(g);
            this.lower = lower.divide(g);
        }

        static Fraction of(long upper, long lower) {
            return new Fraction(BigInteger.valueOf(upper), BigInteger.valueOf(lower));
        }

        Fraction plus(Fraction o) {
            return new Fraction(upper.multiply(o.lower).add(o.upper.multiply(lower)), lower.multiply(o.lower));
        }

        Fraction times(Fraction o) {
            return new Fraction(upper.multiply(o.upper), lower.multiply(o.lower));
        }

        Fraction minus(Fraction o) {
            return plus(new Fraction(o.upper.negate(), o.lower));
        }

        boolean atLeast(Fraction o) {
            return minus(o).upper.signum() >= 0;
        }

        long part(int part) {
            return (part == 0 ? upper : lower).longValueExact();
        }
    }

    record Sight(int n, int m, int w, boolean signed) { }

    static final class World {
        TreeMap<Integer, Man> men = new TreeMap<>();
        TreeMap<String, Integer> debts = new TreeMap<>();
        int year = 0;
        int[] weights = {1, 1, 1, 1, 1, 1, 1, 1, 1};
        List<Sight> sights = new ArrayList<>();

        World copy() {
            World c = new World();
            men.forEach((p, man) -> c.men.put(p, man.copy()));
            c.debts.putAll(debts);
            c.year = year;
            c.weights = weights.clone();
            c.sights.addAll(sights);
            return c;
        }

        int debt(int debtor, int creditor) {
            return debts.getOrDefault(debtor + ">" + creditor, 0);
        }

        void owe(int debtor, int creditor, int more) {
            debts.merge(debtor + ">" + creditor, more, Integer::sum);
        }
    }

    World world = new World();
    String pad = "";
    final World[] images = new World[2];
    private final Map<String, Fraction> bestOf = new HashMap<>();

    // ---- lives

    int fault() {
        for (int i = 1; i <= pad.length(); i++) {
            Matcher m = LIVES.matcher(pad.substring(0, i));
            if (!m.matches() && !m.hitEnd()) {
                return i - 1;
            }
        }
        return LIVES.matcher(pad).matches() ? NONE : pad.length();
    }

    List<String> actsOfPad() {
        List<String> acts = new ArrayList<>();
        Matcher m = ACT.matcher(pad);
        while (m.find()) {
            acts.add(m.group());
        }
        return acts;
    }

    static int reason(World w, String act) {
        if (act.equals(".")) {
            return w.year == 99 ? 4 : 0;
        }
        Man man = w.men.get(act.charAt(0) - 'A');
        boolean two = act.length() == 4;
        Man other = two ? w.men.get(act.charAt(3) - 'A') : man;
        if (man == null || other == null) {
            return 1;
        }
        if (two && act.charAt(0) == act.charAt(3)) {
            return 2;
        }
        char deed = act.charAt(1);
        int number = two ? act.charAt(2) - '0' : 1;
        if (deed != '!' && (deed == '<' ? other : man).sheets < number) {
            return 3;
        }
        if (deed == '=' && w.debt(act.charAt(3) - 'A', act.charAt(0) - 'A') + number > 99) {
            return 5;
        }
        return 0;
    }

    static void perform(World w, String act) {
        if (act.equals(".")) {
            w.year++;
            return;
        }
        int p = act.charAt(0) - 'A';
        Man man = w.men.get(p);
        char deed = act.charAt(1);
        if (deed == '!') {
            man.worth = Math.min(9999, man.worth + act.charAt(2) - '0');
            man.forged++;
        } else if (deed == '*') {
            man.sheets--;
        } else if (act.length() == 2) {
            man.sheets--;
            man.worth = Math.min(9999, man.worth + deed - '0');
        } else {
            int number = act.charAt(2) - '0';
            int q = act.charAt(3) - 'A';
            Man giver = deed == '<' ? w.men.get(q) : man;
            Man taker = deed == '<' ? man : w.men.get(q);
            giver.sheets -= number;
            taker.sheets = Math.min(400, taker.sheets + number);
            if (deed == '=') {
                w.owe(q, p, number);
            }
        }
    }

    /** The world behind the LIVES, or null: there is a FAULT or an ACT that can not be. */
    World behindAll() {
        return fault() != NONE || judge(0) != NONE ? null : behindActs(actsOfPad().size());
    }

    World behindActs(int count) {
        World w = world.copy();
        for (String act : actsOfPad().subList(0, count)) {
            perform(w, act);
        }
        return w;
    }

    int judge(int what) {
        if (what < 0 || what > 1) {
            return OUTSIDE;
        }
        if (fault() != NONE) {
            return NO;
        }
        List<String> acts = actsOfPad();
        World w = world.copy();
        for (int i = 0; i < acts.size(); i++) {
            int why = reason(w, acts.get(i));
            if (why != 0) {
                return what == 0 ? i : why;
            }
            perform(w, acts.get(i));
        }
        return NONE;
    }

    int done() {
        World then = behindAll();
        if (then == null) {
            return NO;
        }
        int count = actsOfPad().size();
        world = then;
        pad = "";
        return count;
    }

    private static int holding(Man man, int what) {
        return what == 0 ? man.sheets : what == 1 ? man.worth : man.forged;
    }

    int state(int p, int what) {
        return !world.men.containsKey(p) ? UNKNOWN : what < 0 || what > 2 ? OUTSIDE : holding(world.men.get(p), what);
    }

    int behind(int p, int what) {
        if (!world.men.containsKey(p)) {
            return UNKNOWN;
        }
        if (what < 0 || what > 2) {
            return OUTSIDE;
        }
        World then = behindAll();
        return then == null ? NO : holding(then.men.get(p), what);
    }

    int acts(int what) {
        if (what < 0 || what > 1) {
            return OUTSIDE;
        }
        if (behindAll() == null) {
            return NO;
        }
        if (what == 0) {
            return (int) actsOfPad().stream().filter(a -> a.matches(".[1-9]")).count();
        }
        for (int i = 0; i < actsOfPad().size(); i++) {
            World ahead = behindActs(i);
            World then = behindActs(i + 1);
            for (int p : then.men.keySet()) {
                if (then.men.get(p).sheets == 0 && ahead.men.get(p).sheets > 0) {
                    return i;
                }
            }
        }
        return NONE;
    }

    // ---- people

    int person(int p, int sheets, int tail) {
        if (p < 0 || p > 5) {
            return UNKNOWN;
        }
        if (sheets < 0 || sheets > 400 || tail < 0 || tail > 9) {
            return OUTSIDE;
        }
        Man man = world.men.computeIfAbsent(p, k -> new Man());
        man.sheets = sheets;
        man.tail = tail;
        return world.men.size();
    }

    int die(int p) {
        if (world.men.remove(p) == null) {
            return UNKNOWN;
        }
        world.debts.keySet().removeIf(k -> k.startsWith(p + ">") || k.endsWith(">" + p));
        return world.men.size();
    }

    int weight(int k, int v) {
        if (k < 1 || k > 9 || v < 0 || v > 9) {
            return OUTSIDE;
        }
        int[] then = world.weights.clone();
        then[k - 1] = v;
        int sum = 0;
        for (int x : then) {
            sum += x;
        }
        if (sum == 0) {
            return STATE;
        }
        int was = world.weights[k - 1];
        world.weights = then;
        bestOf.clear();
        return was;
    }

    int say(int sign) {
        if (sign < 33 || sign > 126) {
            return OUTSIDE;
        }
        if (pad.length() == 60) {
            return FULL;
        }
        pad += (char) sign;
        return pad.length();
    }

    int wipe() {
        int were = pad.length();
        pad = "";
        return were;
    }

    int owes(int p, int q) {
        return p == q || !world.men.containsKey(p) || !world.men.containsKey(q) ? UNKNOWN : world.debt(p, q);
    }

    int who(int what) {
        if (what == 0) {
            int best = NONE;
            for (int p : world.men.descendingKeySet()) {
                if (best == NONE || world.men.get(p).worth >= world.men.get(best).worth) {
                    best = p;
                }
            }
            return best;
        }
        if (what == 1) {
            return world.men.keySet().stream().filter(p -> world.men.get(p).forged == 0).mapToInt(p -> 1 << p).sum();
        }
        return OUTSIDE;
    }

    // ---- which to sign, debts

    Fraction mean(int n, int m) {
        if (n == 0 || m == 0) {
            return Fraction.of(0, 1);
        }
        Fraction known = bestOf.get(n + "/" + m);
        if (known != null) {
            return known;
        }
        long all = 0;
        for (int x : world.weights) {
            all += x;
        }
        Fraction sum = Fraction.of(0, 1);
        for (int k = 1; k <= 9; k++) {
            Fraction sign = Fraction.of(k, 1).plus(mean(n - 1, m - 1));
            Fraction leave = mean(n, m - 1);
            sum = sum.plus(Fraction.of(world.weights[k - 1], all).times(sign.atLeast(leave) ? sign : leave));
        }
        bestOf.put(n + "/" + m, sum);
        return sum;
    }

    long best(int n, int m, int part) {
        return n < 0 || n > 9 || m < 0 || m > 8 || part < 0 || part > 1 ? REFUSED : mean(n, m).part(part);
    }

    int least(int n, int m) {
        if (n < 0 || n > 9 || m < 0 || m > 8) {
            return OUTSIDE;
        }
        if (n == 0 || m == 0) {
            return NONE;
        }
        int k = 1;
        while (!Fraction.of(k, 1).plus(mean(n - 1, m - 1)).atLeast(mean(n, m - 1))) {
            k++;
        }
        return k;
    }

    long price(int n, int m, int part) {
        return n < 0 || n > 8 || m < 0 || m > 8 || part < 0 || part > 1 ? REFUSED : mean(n + 1, m).minus(mean(n, m)).part(part);
    }

    /** Looks at every one of 2 to the draws outcomes. */
    private static Fraction chanceOfAtMost(int most, int draws, int t) {
        Fraction sum = Fraction.of(0, 1);
        for (int outcome = 0; outcome < 1 << draws; outcome++) {
            int hits = Integer.bitCount(outcome);
            if (hits <= most) {
                long ways = 1;
                for (int i = 0; i < draws; i++) {
                    ways *= (outcome >> i & 1) == 1 ? t : 10 - t;
                }
                sum = sum.plus(Fraction.of(ways, BigInteger.TEN.pow(draws).longValueExact()));
            }
        }
        return sum;
    }

    long last(int n, int m, int t, int part) {
        if (n < 0 || n > 400 || m < 0 || m > 9 || t < 0 || t > 10 || part < 0 || part > 1) {
            return REFUSED;
        }
        return chanceOfAtMost(n, m, t).part(part);
    }

    /** All but the chance that k - 1 at the most are clean. */
    long blots(int n, int k, int t, int part) {
        if (n < 0 || n > 9 || k < 0 || k > n || t < 0 || t > 10 || part < 0 || part > 1) {
            return REFUSED;
        }
        Fraction fewerClean = k == 0 ? Fraction.of(0, 1) : chanceOfAtMost(k - 1, n, 10 - t);
        return Fraction.of(1, 1).minus(fewerClean).part(part);
    }

    private int net(int p) {
        int sum = 0;
        for (int q : world.men.keySet()) {
            sum += world.debt(q, p) - world.debt(p, q);
        }
        return sum;
    }

    int netted(int p) {
        return world.men.containsKey(p) ? 1000 + net(p) : UNKNOWN;
    }

    int hands() {
        List<Integer> nets = new ArrayList<>();
        for (int p : world.men.keySet()) {
            if (net(p) != 0) {
                nets.add(net(p));
            }
        }
        return nets.size() - mostParts(nets, 0, new ArrayList<>());
    }

    /** Tries all ways to part them; the most parts of a way whose parts are all nought. */
    private static int mostParts(List<Integer> nets, int i, List<Integer> sums) {
        if (i == nets.size()) {
            return sums.stream().allMatch(s -> s == 0) ? sums.size() : -1000;
        }
        int best = -1000;
        for (int g = 0; g <= sums.size(); g++) {
            List<Integer> next = new ArrayList<>(sums);
            if (g == sums.size()) {
                next.add(nets.get(i));
            } else {
                next.set(g, next.get(g) + nets.get(i));
            }
            best = Math.max(best, mostParts(nets, i + 1, next));
        }
        return best;
    }

    // ---- tails, forgeries, habits

    private boolean areTails(int tails) {
        return tails >= 0 && (tails == 0 ? 0 : String.valueOf(tails).length()) <= world.men.size();
    }

    private List<List<Integer>> orders(List<Integer> left) {
        List<List<Integer>> all = new ArrayList<>();
        if (left.isEmpty()) {
            all.add(new ArrayList<>());
        }
        for (Integer p : left) {
            List<Integer> rest = new ArrayList<>(left);
            rest.remove(p);
            for (List<Integer> order : orders(rest)) {
                order.add(0, p);
                all.add(order);
            }
        }
        return all;
    }

    private int slips(List<Integer> order, int tails) {
        int sum = 0;
        for (int i = order.size() - 1; i >= 0; i--) {
            sum += Math.abs(tails % 10 - world.men.get(order.get(i)).tail);
            tails /= 10;
        }
        return sum;
    }

    int match(int tails, int what) {
        if (!areTails(tails) || what < 0 || what > 1) {
            return OUTSIDE;
        }
        List<List<Integer>> all = orders(new ArrayList<>(world.men.keySet()));
        int fewest = all.stream().mapToInt(o -> slips(o, tails)).min().getAsInt();
        return what == 0 ? fewest : (int) all.stream().filter(o -> slips(o, tails) == fewest).count();
    }

    int wrote(int tails, int i) {
        if (!areTails(tails) || i < 0 || i >= world.men.size()) {
            return OUTSIDE;
        }
        int fewest = match(tails, 0);
        for (List<Integer> order : orders(new ArrayList<>(world.men.keySet()))) {
            if (slips(order, tails) == fewest) {
                return order.get(i);
            }
        }
        throw new IllegalStateException();
    }

    int compare(int n) {
        if (n < 1 || n > 99) {
            return OUTSIDE;
        }
        int[] need = new int[n + 2];
        for (int cases = 2; cases <= n + 1; cases++) {
            need[cases] = 1000;
            for (int inside = 1; inside < cases; inside++) {
                need[cases] = Math.min(need[cases], 1 + Math.max(need[inside], need[cases - inside]));
            }
        }
        return need[n + 1];
    }

    int seen(int n, int m, int w, boolean signed) {
        if (n < 0 || n > 9 || m < 1 || m > 8 || w < 1 || w > 9) {
            return OUTSIDE;
        }
        if (world.sights.size() == 8) {
            return FULL;
        }
        world.sights.add(new Sight(n, m, w, signed));
        return world.sights.size();
    }

    int forget() {
        int were = world.sights.size();
        world.sights.clear();
        return were;
    }

    private boolean habitSigns(int habit, int n, int m, int w) {
        if (n == 0) {
            return false;
        }
        if (habit == 10) {
            return w >= least(n, m);
        }
        if (habit == 11) {
            return n >= m || w >= 5;
        }
        return w >= habit;
    }

    private List<Integer> fitting() {
        List<Integer> fit = new ArrayList<>();
        for (int h = 0; h <= 11; h++) {
            boolean all = true;
            for (Sight s : world.sights) {
                all &= habitSigns(h, s.n, s.m, s.w) == s.signed;
            }
            if (all) {
                fit.add(h);
            }
        }
        return fit;
    }

    int signs() {
        return fitting().stream().mapToInt(h -> 1 << h).sum();
    }

    int watch(int what) {
        if (what < 0 || what > 1) {
            return OUTSIDE;
        }
        List<Integer> fit = fitting();
        if (fit.isEmpty()) {
            return NONE;
        }
        TreeMap<Integer, Integer> leftByOffer = new TreeMap<>();
        for (int n = 0; n <= 9; n++) {
            for (int m = 1; m <= 8; m++) {
                for (int w = 1; w <= 9; w++) {
                    int yes = 0;
                    for (int h : fit) {
                        yes += habitSigns(h, n, m, w) ? 1 : 0;
                    }
                    leftByOffer.put(100 * n + 10 * m + w, Math.max(yes, fit.size() - yes));
                }
            }
        }
        int fewest = leftByOffer.values().stream().mapToInt(x -> x).min().getAsInt();
        return what == 1 ? fewest : leftByOffer.keySet().stream().filter(o -> leftByOffer.get(o) == fewest).findFirst().get();
    }

    int book(int seed, int m, int what) {
        if (seed < 0 || seed > 9999 || m < 1 || m > 99 || what < 0 || what > 2) {
            return OUTSIDE;
        }
        World w = world.copy();
        int forged = 0;
        int x = seed;
        for (int i = 0; i < m; i++) {
            x = Math.floorMod(75 * x + 74, 65537);
            String letter = String.valueOf((char) ('A' + x % 6));
            String digit = String.valueOf(1 + x / 6 % 9);
            if (reason(w, letter + digit) == 0) {
                perform(w, letter + digit);
            } else if (reason(w, letter + "!" + digit) == 0) {
                perform(w, letter + "!" + digit);
                forged++;
            }
            if (reason(w, ".") == 0) {
                perform(w, ".");
            }
        }
        int worth = w.men.values().stream().mapToInt(man -> man.worth).sum();
        return what == 0 ? worth : what == 1 ? forged : (int) w.men.values().stream().filter(man -> man.sheets == 0).count();
    }

    int image(int n) {
        if (n < 0 || n > 1) {
            return OUTSIDE;
        }
        images[n] = world.copy();
        return 1;
    }

    int restore(int n) {
        if (n < 0 || n > 1) {
            return OUTSIDE;
        }
        if (images[n] == null) {
            return STATE;
        }
        world = images[n].copy();
        bestOf.clear();
        return 1;
    }

    int told(int what) {
        switch (what) {
            case 0: return pad.length();
            case 1: return world.men.keySet().stream().mapToInt(p -> 1 << p).sum();
            case 2: return world.year;
            case 3: return world.sights.size();
            default:
                if (what >= 11 && what <= 19) {
                    return world.weights[what - 11];
                }
                return world.men.containsKey(what - 20) ? world.men.get(what - 20).tail : OUTSIDE;
        }
    }
}
