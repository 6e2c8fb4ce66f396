/** People who live by the sheets that they signed as children: see README.md. */
public final class SignedSheets {
    public static final int NONE = -6, UNKNOWN = -1, OUTSIDE = -2, STATE = -3, FULL = -4, NO = -5;
    public static final long LOST = -1000000000000000000L;

    private static final int PERSONS = 6, SETS = 64;
    private static final int MOST_SHEETS = 400, MOST_WORTH = 9999, MOST_DEBT = 99, LAST_YEAR = 99;
    private static final int PAD_SIGNS = 60, FIRST_SIGN = 33, LAST_SIGN = 126;
    private static final int MOST_OFFERED = 9, MOST_WEIGHT = 9;
    private static final int PLAN_SHEETS = 9, PLAN_YEARS = 8;
    private static final int CHANCE_DRAWS = 9, TENTHS = 10;
    private static final int MOST_SIGHTS = 8, ALL_HABITS = 4095, HABIT_LEAST = 10, HABIT_PLENTY = 11;
    private static final int IMAGES = 2, NET_BASE = 1000, MOST_COMPARED = 99;
    private static final int BOOK_SEEDS = 9999, BOOK_YEARS = 99;

    private static final char SIGN = '1', FORGE = '!', BLOT = '*', GIVE = '>', LEND = '=', STEAL = '<', YEAR_END = '.';
    private static final int ABSENT = 1, SAME = 2, TOO_FEW = 3, NO_YEAR = 4, TOO_DEEP = 5, CAN_BE = 0;

    private final World now;
    private final World[] images;
    private final Pad pad;
    private final Lives lives;
    private final Plan plan;
    private final Matching matching;
    private final Netting netting;

    public SignedSheets() {
        now = new World();
        images = new World[IMAGES];
        for (int i = 0; i < IMAGES; i++) {
            images[i] = new World();
        }
        pad = new Pad();
        lives = new Lives();
        plan = new Plan();
        matching = new Matching();
        netting = new Netting();
    }

    // ---- 1 people, lives

    public int person(int person, int sheets, int tail) {
        if (!isIn(person, 0, PERSONS - 1)) {
            return UNKNOWN;
        }
        if (!isIn(sheets, 0, MOST_SHEETS) || !isIn(tail, 0, 9)) {
            return OUTSIDE;
        }
        now.folk.enter(person, sheets, tail);
        return now.folk.count();
    }

    public int die(int person) {
        if (!now.folk.has(person)) {
            return UNKNOWN;
        }
        now.folk.leave(person);
        return now.folk.count();
    }

    public int weight(int worth, int v) {
        if (!isIn(worth, 1, MOST_OFFERED) || !isIn(v, 0, MOST_WEIGHT)) {
            return OUTSIDE;
        }
        int was = now.weight[worth];
        if (v == 0 && now.weightOfAll() == was) {
            return STATE;
        }
        now.weight[worth] = v;
        plan.forgetValues();
        return was;
    }

    public int say(int sign) {
        if (!isIn(sign, FIRST_SIGN, LAST_SIGN)) {
            return OUTSIDE;
        }
        if (pad.count >= PAD_SIGNS) {
            return FULL;
        }
        pad.add(sign);
        return pad.count;
    }

    public int wipe() {
        int were = pad.count;
        pad.count = 0;
        return were;
    }

    public int fault() {
        return pad.firstFault();
    }

    // ---- 2 lives

    public int judge(int what) {
        if (!isIn(what, 0, 1)) {
            return OUTSIDE;
        }
        if (pad.firstFault() != NONE) {
            return NO;
        }
        lives.tell(now.folk, pad);
        return what == 0 ? lives.badAct : lives.why;
    }

    public int done() {
        if (!allCanBe()) {
            return NO;
        }
        now.folk.copyFrom(lives.after);
        pad.count = 0;
        return lives.acts;
    }

    public int state(int person, int what) {
        if (!now.folk.has(person)) {
            return UNKNOWN;
        }
        if (!isIn(what, 0, 2)) {
            return OUTSIDE;
        }
        return now.folk.holding(person, what);
    }

    public int behind(int person, int what) {
        if (!now.folk.has(person)) {
            return UNKNOWN;
        }
        if (!isIn(what, 0, 2)) {
            return OUTSIDE;
        }
        if (!allCanBe()) {
            return NO;
        }
        return lives.after.holding(person, what);
    }

    public int acts(int what) {
        if (!isIn(what, 0, 1)) {
            return OUTSIDE;
        }
        if (!allCanBe()) {
            return NO;
        }
        return what == 0 ? lives.signed : lives.bareAct;
    }

    public int owes(int person, int other) {
        if (!now.folk.has(person) || !now.folk.has(other) || person == other) {
            return UNKNOWN;
        }
        return now.folk.debt(person, other);
    }

    public int who(int what) {
        if (!isIn(what, 0, 1)) {
            return OUTSIDE;
        }
        return what == 0 ? now.folk.richest() : now.folk.honest();
    }

    /** Tells the LIVES on the PAD; what they lead to then stands in lives. */
    private boolean allCanBe() {
        if (pad.firstFault() != NONE) {
            return false;
        }
        lives.tell(now.folk, pad);
        return lives.badAct == NONE;
    }

    // ---- 3 which to sign, debts

    public long best(int n, int m, int part) {
        if (!isPlan(n, m) || !isIn(part, 0, 1)) {
            return LOST + OUTSIDE;
        }
        plan.learn(now);
        return fractionPart(plan.value(n, m), plan.scale(m), part);
    }

    public int least(int n, int m) {
        if (!isPlan(n, m)) {
            return OUTSIDE;
        }
        if (n == 0 || m == 0) {
            return NONE;
        }
        plan.learn(now);
        return plan.leastToSign(n, m);
    }

    public long price(int n, int m, int part) {
        if (!isIn(n, 0, PLAN_SHEETS - 1) || !isPlan(n, m) || !isIn(part, 0, 1)) {
            return LOST + OUTSIDE;
        }
        plan.learn(now);
        return fractionPart(plan.value(n + 1, m) - plan.value(n, m), plan.scale(m), part);
    }

    public long last(int n, int m, int t, int part) {
        if (!isIn(n, 0, MOST_SHEETS) || !isIn(m, 0, CHANCE_DRAWS) || !isIn(t, 0, TENTHS) || !isIn(part, 0, 1)) {
            return LOST + OUTSIDE;
        }
        return fractionPart(waysOfAtMost(n, m, t), power(TENTHS, m), part);
    }

    public int netted(int person) {
        if (!now.folk.has(person)) {
            return UNKNOWN;
        }
        return now.folk.net(person) + NET_BASE;
    }

    public int hands() {
        return netting.fewestHands(now.folk);
    }

    private static boolean isPlan(int n, int m) {
        return isIn(n, 0, PLAN_SHEETS) && isIn(m, 0, PLAN_YEARS);
    }

    // ---- 4 tails, forgeries, habits

    public int match(int tails, int what) {
        if (!areTails(tails) || !isIn(what, 0, 1)) {
            return OUTSIDE;
        }
        matching.weigh(now.folk, tails);
        return what == 0 ? matching.slips[0] : matching.ways[0];
    }

    public int wrote(int tails, int i) {
        if (!areTails(tails) || !isIn(i, 0, now.folk.count() - 1)) {
            return OUTSIDE;
        }
        matching.weigh(now.folk, tails);
        return matching.writerOf(now.folk, i);
    }

    public int compare(int n) {
        if (!isIn(n, 1, MOST_COMPARED)) {
            return OUTSIDE;
        }
        // n acts or none make n + 1 cases, and a comparison can do no better than halve them
        int comparisons = 0;
        for (int cases = 1; cases < n + 1; cases *= 2) {
            comparisons++;
        }
        return comparisons;
    }

    public long blots(int n, int k, int t, int part) {
        if (!isIn(n, 0, CHANCE_DRAWS) || !isIn(k, 0, n) || !isIn(t, 0, TENTHS) || !isIn(part, 0, 1)) {
            return LOST + OUTSIDE;
        }
        // k at least are clean where n - k at most are blotted
        return fractionPart(waysOfAtMost(n - k, n, t), power(TENTHS, n), part);
    }

    public int seen(int n, int m, int w, boolean signed) {
        if (!isIn(n, 0, PLAN_SHEETS) || !isIn(m, 1, PLAN_YEARS) || !isIn(w, 1, MOST_OFFERED)) {
            return OUTSIDE;
        }
        if (now.sights >= MOST_SIGHTS) {
            return FULL;
        }
        now.addSight(n, m, w, signed);
        return now.sights;
    }

    public int forget() {
        int were = now.sights;
        now.sights = 0;
        return were;
    }

    public int signs() {
        plan.learn(now);
        return fittingHabits();
    }

    public int watch(int what) {
        if (!isIn(what, 0, 1)) {
            return OUTSIDE;
        }
        plan.learn(now);
        int habits = fittingHabits();
        if (habits == 0) {
            return NONE;
        }
        return bestWatch(habits, what);
    }

    public int book(int seed, int m, int what) {
        if (!isIn(seed, 0, BOOK_SEEDS) || !isIn(m, 1, BOOK_YEARS) || !isIn(what, 0, 2)) {
            return OUTSIDE;
        }
        int forged = lives.draw(now.folk, seed, m);
        if (what == 0) {
            return lives.after.worthOfAll();
        }
        return what == 1 ? forged : Integer.bitCount(lives.after.bare());
    }

    public int image(int n) {
        if (!isIn(n, 0, IMAGES - 1)) {
            return OUTSIDE;
        }
        images[n].copyFrom(now);
        images[n].kept = true;
        return 1;
    }

    public int restore(int n) {
        if (!isIn(n, 0, IMAGES - 1)) {
            return OUTSIDE;
        }
        if (!images[n].kept) {
            return STATE;
        }
        now.copyFrom(images[n]);
        plan.forgetValues();
        return 1;
    }

    public int told(int what) {
        if (what == 0) {
            return pad.count;
        }
        if (what == 1) {
            return now.folk.there;
        }
        if (what == 2) {
            return now.folk.year;
        }
        if (what == 3) {
            return now.sights;
        }
        if (isIn(what, 11, 10 + MOST_OFFERED)) {
            return now.weight[what - 10];
        }
        if (isIn(what, 20, 20 + PERSONS - 1) && now.folk.has(what - 20)) {
            return now.folk.tail[what - 20];
        }
        return OUTSIDE;
    }

    private boolean areTails(int tails) {
        return tails >= 0 && tails < power(10, now.folk.count());
    }

    /** As bits, the habits by which an act worth w is signed; the plan has been learnt. */
    private int signingHabits(int n, int m, int w) {
        if (n == 0) {
            return 0;
        }
        int habits = (1 << (w + 1)) - 1;
        if (plan.isToSign(n, m, w)) {
            habits |= 1 << HABIT_LEAST;
        }
        if (n >= m || w >= 5) {
            habits |= 1 << HABIT_PLENTY;
        }
        return habits;
    }

    private int fittingHabits() {
        int habits = ALL_HABITS;
        for (int i = 0; i < now.sights; i++) {
            int offer = now.sightOffer[i];
            int signing = signingHabits(offer / 100, offer / 10 % 10, offer % 10);
            habits &= now.sightSigned[i] ? signing : ~signing;
        }
        return habits;
    }

    /** The offers rise as they are tried, so that the least of equals is the first. */
    private int bestWatch(int habits, int what) {
        int bestOffer = NONE;
        int fewest = HABIT_PLENTY + 2;
        for (int n = 0; n <= PLAN_SHEETS; n++) {
            for (int m = 1; m <= PLAN_YEARS; m++) {
                for (int w = 1; w <= MOST_OFFERED; w++) {
                    int signing = signingHabits(n, m, w);
                    int left = Math.max(Integer.bitCount(habits & signing), Integer.bitCount(habits & ~signing));
                    if (left < fewest) {
                        fewest = left;
                        bestOffer = 100 * n + 10 * m + w;
                    }
                }
            }
        }
        return what == 0 ? bestOffer : fewest;
    }

    // ---- numbers

    private static boolean isIn(int value, int low, int high) {
        return value >= low && value <= high;
    }

    private static long power(int base, int exponent) {
        long product = 1;
        for (int i = 0; i < exponent; i++) {
            product *= base;
        }
        return product;
    }

    /** Of draws that each hit with t tenths: 10 to the draws times the chance that most hit at the most. */
    private static long waysOfAtMost(int most, int draws, int t) {
        long sum = 0;
        long choices = 1;
        for (int hits = 0; hits <= draws && hits <= most; hits++) {
            sum += choices * power(t, hits) * power(TENTHS - t, draws - hits);
            choices = choices * (draws - hits) / (hits + 1);
        }
        return sum;
    }

    private static long fractionPart(long upper, long lower, int part) {
        long divisor = commonDivisor(upper, lower);
        return part == 0 ? upper / divisor : lower / divisor;
    }

    /** At least 1, so that it can always divide. */
    private static long commonDivisor(long a, long b) {
        // Euclid needs fewer than 100 steps for any two longs
        for (int i = 0; i < 100 && b != 0; i++) {
            long rest = a % b;
            a = b;
            b = rest;
        }
        return Math.max(1, a);
    }

    /** The PERSONS with all that is theirs, and the YEAR. */
    private static final class Folk {
        int there;
        int year;
        final int[] sheets = new int[PERSONS];
        final int[] tail = new int[PERSONS];
        final int[] worth = new int[PERSONS];
        final int[] forged = new int[PERSONS];
        /** A row of creditors for each debtor. */
        final int[] debts = new int[PERSONS * PERSONS];

        boolean has(int p) {
            return isIn(p, 0, PERSONS - 1) && (there >> p & 1) == 1;
        }

        int count() {
            return Integer.bitCount(there);
        }

        void enter(int p, int newSheets, int newTail) {
            there |= 1 << p;
            sheets[p] = newSheets;
            tail[p] = newTail;
        }

        /** Clears his rows, so that who enters in his place begins anew. */
        void leave(int p) {
            there &= ~(1 << p);
            sheets[p] = 0;
            tail[p] = 0;
            worth[p] = 0;
            forged[p] = 0;
            for (int other = 0; other < PERSONS; other++) {
                debts[p * PERSONS + other] = 0;
                debts[other * PERSONS + p] = 0;
            }
        }

        void copyFrom(Folk from) {
            there = from.there;
            year = from.year;
            System.arraycopy(from.sheets, 0, sheets, 0, PERSONS);
            System.arraycopy(from.tail, 0, tail, 0, PERSONS);
            System.arraycopy(from.worth, 0, worth, 0, PERSONS);
            System.arraycopy(from.forged, 0, forged, 0, PERSONS);
            System.arraycopy(from.debts, 0, debts, 0, PERSONS * PERSONS);
        }

        int holding(int p, int what) {
            if (what == 0) {
                return sheets[p];
            }
            return what == 1 ? worth[p] : forged[p];
        }

        int debt(int debtor, int creditor) {
            return debts[debtor * PERSONS + creditor];
        }

        int net(int p) {
            int sum = 0;
            for (int other = 0; other < PERSONS; other++) {
                sum += debt(other, p) - debt(p, other);
            }
            return sum;
        }

        void signAct(int p, int gain) {
            sheets[p]--;
            earn(p, gain);
        }

        void forgeAct(int p, int gain) {
            forged[p]++;
            earn(p, gain);
        }

        void earn(int p, int gain) {
            worth[p] = Math.min(MOST_WORTH, worth[p] + gain);
        }

        void move(int from, int to, int number) {
            sheets[from] -= number;
            sheets[to] = Math.min(MOST_SHEETS, sheets[to] + number);
        }

        void owe(int debtor, int creditor, int number) {
            debts[debtor * PERSONS + creditor] += number;
        }

        /** As bits, who is there without SHEETS. */
        int bare() {
            int bits = 0;
            for (int p = 0; p < PERSONS; p++) {
                if (has(p) && sheets[p] == 0) {
                    bits |= 1 << p;
                }
            }
            return bits;
        }

        int honest() {
            int bits = 0;
            for (int p = 0; p < PERSONS; p++) {
                if (has(p) && forged[p] == 0) {
                    bits |= 1 << p;
                }
            }
            return bits;
        }

        int richest() {
            int found = NONE;
            int most = -1;
            for (int p = 0; p < PERSONS; p++) {
                if (has(p) && worth[p] > most) {
                    found = p;
                    most = worth[p];
                }
            }
            return found;
        }

        int worthOfAll() {
            int sum = 0;
            for (int p = 0; p < PERSONS; p++) {
                sum += worth[p];
            }
            return sum;
        }
    }

    /** All but the PAD: what an IMAGE keeps. */
    private static final class World {
        final Folk folk = new Folk();
        /** By worth; place 0 is not used. */
        final int[] weight = new int[MOST_OFFERED + 1];
        final int[] sightOffer = new int[MOST_SIGHTS];
        final boolean[] sightSigned = new boolean[MOST_SIGHTS];
        int sights;
        /** Of an IMAGE: that it was kept. */
        boolean kept;

        World() {
            for (int k = 1; k <= MOST_OFFERED; k++) {
                weight[k] = 1;
            }
        }

        int weightOfAll() {
            int sum = 0;
            for (int k = 1; k <= MOST_OFFERED; k++) {
                sum += weight[k];
            }
            return sum;
        }

        void addSight(int n, int m, int w, boolean signed) {
            sightOffer[sights] = 100 * n + 10 * m + w;
            sightSigned[sights] = signed;
            sights++;
        }

        void copyFrom(World from) {
            folk.copyFrom(from.folk);
            System.arraycopy(from.weight, 0, weight, 0, MOST_OFFERED + 1);
            sights = from.sights;
            for (int i = 0; i < MOST_SIGHTS; i++) {
                sightOffer[i] = from.sightOffer[i];
                sightSigned[i] = from.sightSigned[i];
            }
        }
    }

    /** The signs that were said, and their grammar. */
    private static final class Pad {
        /** What the next sign has to be. */
        private static final int NEW_ACT = 0, DEED = 1, LAST_DIGIT = 2, NUMBER = 3, OTHER = 4, WRONG = -1;

        final int[] sign = new int[PAD_SIGNS];
        int count;

        void add(int code) {
            sign[count] = code;
            count++;
        }

        int signAt(int place) {
            return place >= 0 && place < count ? sign[place] : 0;
        }

        int firstFault() {
            int awaited = NEW_ACT;
            for (int i = 0; i < count; i++) {
                awaited = awaitedBehind(awaited, sign[i]);
                if (awaited == WRONG) {
                    return i;
                }
            }
            return awaited == NEW_ACT ? NONE : count;
        }

        private static int awaitedBehind(int awaited, int code) {
            switch (awaited) {
                case NEW_ACT:
                    return code == YEAR_END ? NEW_ACT : isLetter(code) ? DEED : WRONG;
                case DEED:
                    return awaitedBehindDeed(code);
                case LAST_DIGIT:
                    return isDigit(code) ? NEW_ACT : WRONG;
                case NUMBER:
                    return isDigit(code) ? OTHER : WRONG;
                default:
                    return isLetter(code) ? NEW_ACT : WRONG;
            }
        }

        private static int awaitedBehindDeed(int code) {
            if (isDigit(code) || code == BLOT) {
                return NEW_ACT;
            }
            if (code == FORGE) {
                return LAST_DIGIT;
            }
            return code == GIVE || code == LEND || code == STEAL ? NUMBER : WRONG;
        }

        static boolean isLetter(int code) {
            return isIn(code, 'A', 'A' + PERSONS - 1);
        }

        static boolean isDigit(int code) {
            return isIn(code, '1', '9');
        }
    }

    /** One ACT of a PAD without FAULT. */
    private static final class Act {
        int kind;
        int doer;
        int number;
        int other;
        int length;

        void read(Pad pad, int place) {
            doer = pad.signAt(place) - 'A';
            other = doer;
            number = 1;
            kind = pad.signAt(place + 1);
            length = 2;
            if (pad.signAt(place) == YEAR_END) {
                kind = YEAR_END;
                length = 1;
            } else if (Pad.isDigit(kind)) {
                number = kind - '0';
                kind = SIGN;
            } else if (kind == FORGE) {
                number = pad.signAt(place + 2) - '0';
                length = 3;
            } else if (kind != BLOT) {
                number = pad.signAt(place + 2) - '0';
                other = pad.signAt(place + 3) - 'A';
                length = 4;
            }
        }

        boolean isOfTwo() {
            return kind == GIVE || kind == LEND || kind == STEAL;
        }

        /** The least reason for which it can not be, or CAN_BE. */
        int obstacle(Folk folk) {
            if (kind == YEAR_END) {
                return folk.year >= LAST_YEAR ? NO_YEAR : CAN_BE;
            }
            if (!folk.has(doer) || !folk.has(other)) {
                return ABSENT;
            }
            if (isOfTwo() && doer == other) {
                return SAME;
            }
            if (folk.sheets[kind == STEAL ? other : doer] < sheetsNeeded()) {
                return TOO_FEW;
            }
            return kind == LEND && folk.debt(other, doer) + number > MOST_DEBT ? TOO_DEEP : CAN_BE;
        }

        int sheetsNeeded() {
            if (kind == FORGE) {
                return 0;
            }
            return isOfTwo() ? number : 1;
        }

        /** Only behind obstacle, which has to have found none. */
        void apply(Folk folk) {
            switch (kind) {
                case SIGN:
                    folk.signAct(doer, number);
                    break;
                case FORGE:
                    folk.forgeAct(doer, number);
                    break;
                case BLOT:
                    folk.sheets[doer]--;
                    break;
                case GIVE:
                    folk.move(doer, other, number);
                    break;
                case LEND:
                    folk.move(doer, other, number);
                    folk.owe(other, doer, number);
                    break;
                case STEAL:
                    folk.move(other, doer, number);
                    break;
                default:
                    folk.year++;
                    break;
            }
        }
    }

    /** LIVES and YEAR-BOOKS told on a copy of the PERSONS, so that nothing is DONE. */
    private static final class Lives {
        final Folk after = new Folk();
        final Act act = new Act();
        int acts;
        int badAct;
        int why;
        int signed;
        int bareAct;

        /** The pad has no FAULT. */
        void tell(Folk from, Pad pad) {
            after.copyFrom(from);
            acts = 0;
            badAct = NONE;
            why = NONE;
            signed = 0;
            bareAct = NONE;
            int place = 0;
            for (int i = 0; i < PAD_SIGNS && place < pad.count && badAct == NONE; i++) {
                act.read(pad, place);
                place += act.length;
                tellAct();
            }
        }

        private void tellAct() {
            int obstacle = act.obstacle(after);
            if (obstacle != CAN_BE) {
                badAct = acts;
                why = obstacle;
                return;
            }
            int bareAhead = after.bare();
            act.apply(after);
            if (bareAct == NONE && (after.bare() & ~bareAhead) != 0) {
                bareAct = acts;
            }
            if (act.kind == SIGN) {
                signed++;
            }
            acts++;
        }

        /** How many acts are forged in the YEAR-BOOK; its years are not counted, for no answer tells of them. */
        int draw(Folk from, int seed, int years) {
            after.copyFrom(from);
            int forged = 0;
            int x = seed;
            for (int i = 0; i < years; i++) {
                x = (75 * x + 74) % 65537;
                int p = x % PERSONS;
                int gain = 1 + x / 6 % 9;
                if (after.has(p) && after.sheets[p] > 0) {
                    after.signAct(p, gain);
                } else if (after.has(p)) {
                    after.forgeAct(p, gain);
                    forged++;
                }
            }
            return forged;
        }
    }

    /** BEST for all n and m, from the last year back. All numbers of m years are whole: times the WEIGHTS' sum to the m. */
    private static final class Plan {
        private static final int ROW = PLAN_YEARS + 1;

        private final long[] values = new long[(PLAN_SHEETS + 1) * ROW];
        private final long[] scales = new long[ROW];
        private boolean known;

        /** The WEIGHTS are others now. */
        void forgetValues() {
            known = false;
        }

        void learn(World world) {
            if (known) {
                return;
            }
            int all = world.weightOfAll();
            scales[0] = 1;
            for (int m = 1; m <= PLAN_YEARS; m++) {
                scales[m] = scales[m - 1] * all;
                for (int n = 1; n <= PLAN_SHEETS; n++) {
                    values[n * ROW + m] = meanOfBetter(world.weight, n, m);
                }
            }
            known = true;
        }

        private long meanOfBetter(int[] weight, int n, int m) {
            long sum = 0;
            for (int k = 1; k <= MOST_OFFERED; k++) {
                sum += weight[k] * Math.max(value(n, m - 1), valueOfSigning(n, m, k));
            }
            return sum;
        }

        private long valueOfSigning(int n, int m, int worth) {
            return worth * scales[m - 1] + value(n - 1, m - 1);
        }

        long value(int n, int m) {
            return values[n * ROW + m];
        }

        long scale(int m) {
            return scales[m];
        }

        /** n and m are above 0. */
        boolean isToSign(int n, int m, int worth) {
            return valueOfSigning(n, m, worth) >= value(n, m - 1);
        }

        int leastToSign(int n, int m) {
            int worth = 1;
            while (worth < MOST_OFFERED && !isToSign(n, m, worth)) {
                worth++;
            }
            return worth;
        }
    }

    /** Whose acts they are, from the last act back, for each set of PERSONS who wrote the acts ahead. */
    private static final class Matching {
        final int[] slips = new int[SETS];
        final int[] ways = new int[SETS];
        private final int[] tailOfAct = new int[PERSONS];

        void weigh(Folk folk, int tails) {
            int rest = tails;
            for (int i = folk.count() - 1; i >= 0; i--) {
                tailOfAct[i] = rest % 10;
                rest /= 10;
            }
            slips[folk.there] = 0;
            ways[folk.there] = 1;
            for (int set = folk.there - 1; set >= 0; set--) {
                if ((set & ~folk.there) == 0) {
                    weighSet(folk, set);
                }
            }
        }

        private void weighSet(Folk folk, int set) {
            int fewest = 10 * PERSONS;
            int count = 0;
            for (int p = 0; p < PERSONS; p++) {
                if (isLeft(folk, set, p)) {
                    int sum = slipsWith(folk, set, p);
                    if (sum < fewest) {
                        fewest = sum;
                        count = 0;
                    }
                    if (sum == fewest) {
                        count += ways[set | 1 << p];
                    }
                }
            }
            slips[set] = fewest;
            ways[set] = count;
        }

        private static boolean isLeft(Folk folk, int set, int p) {
            return folk.has(p) && (set >> p & 1) == 0;
        }

        private int slipsWith(Folk folk, int set, int p) {
            int act = Integer.bitCount(set);
            return Math.abs(tailOfAct[act] - folk.tail[p]) + slips[set | 1 << p];
        }

        /** Goes along the first of the best ways. */
        int writerOf(Folk folk, int act) {
            int set = 0;
            int writer = NONE;
            for (int i = 0; i <= act; i++) {
                writer = firstWriter(folk, set);
                if (writer == NONE) {
                    return NONE;
                }
                set |= 1 << writer;
            }
            return writer;
        }

        private int firstWriter(Folk folk, int set) {
            for (int p = 0; p < PERSONS; p++) {
                if (isLeft(folk, set, p) && slipsWith(folk, set, p) == slips[set]) {
                    return p;
                }
            }
            return NONE;
        }
    }

    /** Who quit their DEBTS among themselves need a hand less than they are: so the most such circles are sought. */
    private static final class Netting {
        private final int[] sums = new int[SETS];
        private final int[] circles = new int[SETS];

        int fewestHands(Folk folk) {
            // set 0 is left out: its sum and its circles are always 0
            for (int set = 1; set < SETS; set++) {
                int low = Integer.numberOfTrailingZeros(set);
                sums[set] = sums[set & set - 1] + folk.net(low);
                circles[set] = mostCirclesInside(set) + (sums[set] == 0 ? 1 : 0);
            }
            return PERSONS - circles[SETS - 1];
        }

        private int mostCirclesInside(int set) {
            int most = 0;
            for (int p = 0; p < PERSONS; p++) {
                if ((set >> p & 1) == 1) {
                    most = Math.max(most, circles[set ^ 1 << p]);
                }
            }
            return most;
        }
    }
}
