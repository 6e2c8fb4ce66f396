/** Each promise of the document by its number: ordinary inputs, the edges that are named, wrong inputs. */
public final class PromisesTest {
    private static final int NONE = -6, UNKNOWN = -1, OUTSIDE = -2, STATE = -3, FULL = -4, NO = -5;
    private static final long REFUSED = -1000000000000000002L;
    private static final Due DUE = new Due();

    public static void main(String[] args) {
        p01NewObject();
        p02Person();
        p03Die();
        p04Weight();
        p05Say();
        p06Wipe();
        p07Fault();
        p08Judge();
        p08JudgeReasons();
        p09Done();
        p10State();
        p11Behind();
        p12Acts();
        p13Owes();
        p14Who();
        p15Best();
        p16Least();
        p17Price();
        p18Last();
        p19Netted();
        p20Hands();
        p21Match();
        p22Wrote();
        p23Compare();
        p24Blots();
        p25Seen();
        p26Forget();
        p27Signs();
        p28Watch();
        p29Book();
        p30Image();
        p31Restore();
        p32Told();
        refusalsInOrder();
        DUE.end("PromisesTest");
    }

    private static void due(String call, long got, long want) {
        DUE.is(call, got, want);
    }

    private static SignedSheets people(int... sheets) {
        SignedSheets x = new SignedSheets();
        for (int p = 0; p < sheets.length; p++) {
            x.person(p, sheets[p], p);
        }
        return x;
    }

    private static SignedSheets pad(SignedSheets x, String text) {
        x.wipe();
        for (int i = 0; i < text.length(); i++) {
            x.say(text.charAt(i));
        }
        return x;
    }

    private static int live(SignedSheets x, String text) {
        return pad(x, text).done();
    }

    private static void holds(String when, SignedSheets x, int p, int sheets, int worth, int forged) {
        due(when + ": sheets of " + p, x.state(p, 0), sheets);
        due(when + ": worth of " + p, x.state(p, 1), worth);
        due(when + ": forged of " + p, x.state(p, 2), forged);
    }

    private static void p01NewObject() {
        SignedSheets x = new SignedSheets();
        for (int what = 0; what <= 3; what++) {
            due("1 told " + what, x.told(what), 0);
        }
        for (int k = 1; k <= 9; k++) {
            due("1 weight of " + k, x.told(10 + k), 1);
        }
        for (int p = 0; p < 6; p++) {
            due("1 state", x.state(p, 0), UNKNOWN);
        }
        due("1 who", x.who(0), NONE);
        due("1 hands", x.hands(), 0);
        due("1 image", x.restore(0), STATE);
        due("1 image", x.restore(1), STATE);
        due("1 signs", x.signs(), 4095);
    }

    private static void p02Person() {
        SignedSheets x = new SignedSheets();
        due("2 first", x.person(5, 400, 9), 1);
        due("2 second", x.person(0, 0, 0), 2);
        due("2 unknown", x.person(-1, 0, 0), UNKNOWN);
        due("2 unknown", x.person(6, 0, 0), UNKNOWN);
        due("2 unknown ahead of outside", x.person(6, -1, 0), UNKNOWN);
        due("2 sheets", x.person(1, -1, 0), OUTSIDE);
        due("2 sheets", x.person(1, 401, 0), OUTSIDE);
        due("2 tail", x.person(1, 0, -1), OUTSIDE);
        due("2 tail", x.person(1, 0, 10), OUTSIDE);
        due("2 refused ones are not there", x.told(1), 33);
        live(x, "F9F!3F=2A");
        due("2 anew", x.person(5, 7, 4), 2);
        holds("2 anew", x, 5, 7, 12, 1);
        due("2 anew tail", x.told(25), 4);
        due("2 anew debts stay", x.owes(0, 5), 2);
        due("2 anew refused", x.person(5, 401, 4), OUTSIDE);
        due("2 anew refused", x.state(5, 0), 7);
    }

    private static void p03Die() {
        SignedSheets x = people(50, 50, 50);
        live(x, "A=3BB=4CC=5AA!6A7");
        due("3 not there", x.die(3), UNKNOWN);
        due("3 no such", x.die(6), UNKNOWN);
        due("3 no such", x.die(-1), UNKNOWN);
        due("3 dies", x.die(0), 2);
        due("3 again", x.die(0), UNKNOWN);
        due("3 told", x.told(1), 6);
        due("3 tail", x.told(20), OUTSIDE);
        due("3 other debt", x.owes(2, 1), 4);
        due("3 net", x.netted(1), 1004);
        due("3 net", x.netted(2), 996);
        due("3 comes", x.person(0, 5, 5), 3);
        holds("3 anew", x, 0, 5, 0, 0);
        due("3 debts", x.owes(0, 2), 0);
        due("3 debts", x.owes(1, 0), 0);
    }

    private static void p04Weight() {
        SignedSheets x = new SignedSheets();
        due("4 was", x.weight(9, 0), 1);
        due("4 was", x.weight(9, 9), 0);
        due("4 was", x.weight(9, 3), 9);
        due("4 now", x.told(19), 3);
        due("4 worth", x.weight(0, 1), OUTSIDE);
        due("4 worth", x.weight(10, 1), OUTSIDE);
        due("4 v", x.weight(1, -1), OUTSIDE);
        due("4 v", x.weight(1, 10), OUTSIDE);
        for (int k = 2; k <= 9; k++) {
            x.weight(k, 0);
        }
        due("4 none left", x.weight(1, 0), STATE);
        due("4 stays", x.told(11), 1);
        due("4 zero again", x.weight(2, 0), 0);
        due("4 outside ahead of state", x.weight(10, 0), OUTSIDE);
        due("4 other", x.weight(1, 5), 1);
        due("4 best is by the new ones", x.best(1, 1, 0), 1);
    }

    private static void p05Say() {
        SignedSheets x = new SignedSheets();
        due("5 low", x.say(32), OUTSIDE);
        due("5 high", x.say(127), OUTSIDE);
        due("5 lowest", x.say(33), 1);
        due("5 highest", x.say(126), 2);
        for (int i = 3; i <= 60; i++) {
            due("5 more", x.say('.'), i);
        }
        due("5 full", x.say('.'), FULL);
        due("5 outside ahead of full", x.say(32), OUTSIDE);
        due("5 count", x.told(0), 60);
    }

    private static void p06Wipe() {
        SignedSheets x = pad(people(1), "A1");
        due("6 were", x.wipe(), 2);
        due("6 none", x.wipe(), 0);
        due("6 none", x.told(0), 0);
        due("6 nothing", x.state(0, 0), 1);
        due("6 anew", x.say('A'), 1);
        due("6 old signs are gone", x.fault(), 1);
    }

    private static void p07Fault() {
        String[] good = {"", ".", "A1", "F9", "A!1", "A*", "A>1B", "A=9F", "A<5C", "A>1A", "..A1.B*"};
        for (String text : good) {
            due("7 " + text, pad(new SignedSheets(), text).fault(), NONE);
        }
        String[] more = {"A", "A!", "A>", "A=1", "A<1", "A1B", ".F>9"};
        for (String text : more) {
            due("7 " + text, pad(new SignedSheets(), text).fault(), text.length());
        }
        String[] bad = {"G", "@", "a", "1", "*", "A0", "A:", "AB", "A.", "A?", "A!0", "A!A", "A>0", "A>B", "A=1G", "A<11", "A>1.", "A*1", ".A1!", "A1A>1a"};
        for (String text : bad) {
            due("7 " + text, pad(new SignedSheets(), text).fault(), text.length() - 1);
            due("7 " + text + "..", pad(new SignedSheets(), text + ".A").fault(), text.length() - 1);
        }
    }

    private static void p08Judge() {
        SignedSheets x = people(2, 2);
        due("8 what", x.judge(-1), OUTSIDE);
        due("8 what", x.judge(2), OUTSIDE);
        due("8 empty", x.judge(0), NONE);
        pad(x, "A1A");
        due("8 fault", x.judge(0), NO);
        due("8 outside ahead of no", x.judge(2), OUTSIDE);
        pad(x, "A1A1A1C1");
        due("8 first", x.judge(0), 2);
        due("8 why", x.judge(1), 3);
        pad(x, "A1A1B>1AA1");
        due("8 can be", x.judge(0), NONE);
        due("8 can be", x.judge(1), NONE);
        due("8 nothing is done", x.state(0, 0), 2);
    }

    private static void why(SignedSheets x, String text, int act, int reason) {
        pad(x, text);
        due("8 " + text, x.judge(0), act);
        due("8 " + text, x.judge(1), reason);
    }

    private static void p08JudgeReasons() {
        SignedSheets x = people(3, 0, 400);
        for (String text : new String[] {"D1", "D!1", "D*", "D>1A", "A>1D", "A=1D", "A<1D", "D>1D", "D<1D", "A>9D", "B>1E"}) {
            why(x, text, 0, 1);
        }
        for (String text : new String[] {"A>1A", "A=9A", "B<1B"}) {
            why(x, text, 0, 2);
        }
        for (String text : new String[] {"B1", "B*", "B>1A", "B=1A", "A<1B", "A<4B", "A>4B", "A=4B"}) {
            why(x, text, 0, 3);
        }
        for (String text : new String[] {"B!9", "A>3B", "A=3B", "B<3A", "A>3C", "."}) {
            why(x, text, NONE, NONE);
        }
        live(x, "............................................................");
        live(x, ".......................................");
        due("8 year", x.told(2), 99);
        why(x, "A1.", 1, 4);
        live(x, "C=9AC=9AC=9AC=9AC=9AC=9AC=9AC=9AC=9AC=9A");
        why(x, "C=9A", NONE, NONE);
        live(x, "C=8A");
        why(x, "C=2A", 0, 5);
        why(x, "C=1AC=1A", 1, 5);
        why(x, "C>9A", NONE, NONE);
        why(x, "C=1B", NONE, NONE);
        why(x, "A=9C", NONE, NONE);
        x.person(2, 1, 0);
        why(x, "C=9A", 0, 3);
    }

    private static void p09Done() {
        SignedSheets x = people(10, 2, 400, 395);
        due("9 empty", x.done(), 0);
        due("9 all kinds", live(x, "A5B!7A*A>2BC=9DB<1A."), 7);
        due("9 pad", x.told(0), 0);
        due("9 year", x.told(2), 1);
        holds("9", x, 0, 5, 5, 0);
        holds("9", x, 1, 5, 7, 1);
        holds("9", x, 2, 391, 0, 0);
        holds("9 what is above is lost", x, 3, 400, 0, 0);
        due("9 owes", x.owes(3, 2), 9);
        due("9 owes", x.owes(2, 3), 0);
        due("9 steals owe nothing", x.owes(1, 0), 0);
        due("9 thief is full too", live(x, "D<9C"), 1);
        due("9 thief is full too", x.state(3, 0), 400);
        due("9 victim", x.state(2, 0), 382);
        due("9 fault", live(x, "A1A"), NO);
        due("9 the pad stays", x.told(0), 3);
        due("9 can not be", live(x, "A1A9E1"), NO);
        due("9 the pad stays", x.told(0), 6);
        holds("9 nothing", x, 0, 5, 5, 0);
    }

    private static void p10State() {
        SignedSheets x = people(4);
        live(x, "A9A8A!3A!4");
        holds("10", x, 0, 2, 24, 2);
        due("10 unknown", x.state(1, 0), UNKNOWN);
        due("10 unknown", x.state(-1, 0), UNKNOWN);
        due("10 unknown", x.state(6, 0), UNKNOWN);
        due("10 unknown ahead of outside", x.state(1, 3), UNKNOWN);
        due("10 what", x.state(0, 3), OUTSIDE);
        due("10 what", x.state(0, -1), OUTSIDE);
    }

    private static void p11Behind() {
        SignedSheets x = people(4, 4);
        due("11 empty", x.behind(0, 0), 4);
        pad(x, "A9A!1A>1B");
        due("11 sheets", x.behind(0, 0), 2);
        due("11 worth", x.behind(0, 1), 10);
        due("11 forged", x.behind(0, 2), 1);
        due("11 other", x.behind(1, 0), 5);
        holds("11 nothing is done", x, 0, 4, 0, 0);
        due("11 pad", x.told(0), 9);
        due("11 unknown", x.behind(2, 0), UNKNOWN);
        due("11 what", x.behind(0, 3), OUTSIDE);
        due("11 what", x.behind(0, -1), OUTSIDE);
        pad(x, "A");
        due("11 fault", x.behind(0, 0), NO);
        due("11 unknown ahead", x.behind(2, 3), UNKNOWN);
        due("11 outside ahead", x.behind(0, 3), OUTSIDE);
        pad(x, "A1A>9B");
        due("11 can not be", x.behind(1, 0), NO);
    }

    private static void bare(SignedSheets x, String text, int signed, int bare) {
        pad(x, text);
        due("12 signed " + text, x.acts(0), signed);
        due("12 bare " + text, x.acts(1), bare);
    }

    private static void p12Acts() {
        SignedSheets x = people(2, 1, 0);
        bare(x, "", 0, NONE);
        bare(x, "A1A!1.B*", 1, 3);
        bare(x, "A1B2", 2, 1);
        bare(x, "C!1.", 0, NONE);
        bare(x, "A>1CC1", 1, 1);
        bare(x, ".C<1B", 0, 1);
        bare(x, "A=2C", 0, 0);
        bare(x, "A>2CC>2A", 0, 0);
        due("12 what", x.acts(2), OUTSIDE);
        due("12 what", x.acts(-1), OUTSIDE);
        pad(x, "C1");
        due("12 no", x.acts(0), NO);
        due("12 no", x.acts(1), NO);
        pad(x, "C");
        due("12 no", x.acts(1), NO);
        due("12 outside ahead", x.acts(2), OUTSIDE);
    }

    private static void p13Owes() {
        SignedSheets x = people(20, 20, 20);
        live(x, "A=3BA=4BB=2A");
        due("13 second owes", x.owes(1, 0), 7);
        due("13 both ways", x.owes(0, 1), 2);
        due("13 none", x.owes(2, 0), 0);
        due("13 one", x.owes(0, 0), UNKNOWN);
        due("13 first", x.owes(3, 0), UNKNOWN);
        due("13 second", x.owes(0, 3), UNKNOWN);
        due("13 wild", x.owes(-1, 0), UNKNOWN);
        due("13 wild", x.owes(0, 6), UNKNOWN);
    }

    private static void p14Who() {
        SignedSheets x = people(9, 9, 9);
        due("14 all equal", x.who(0), 0);
        due("14 honest", x.who(1), 7);
        live(x, "B4C4");
        due("14 least of equals", x.who(0), 1);
        live(x, "C!1");
        due("14 richest", x.who(0), 2);
        due("14 honest", x.who(1), 3);
        x.die(0);
        due("14 honest are there", x.who(1), 2);
        due("14 what", x.who(2), OUTSIDE);
        due("14 what", x.who(-1), OUTSIDE);
    }

    private static void fraction(String call, long upper, long lower, long wantUpper, long wantLower) {
        due(call + " upper", upper, wantUpper);
        due(call + " lower", lower, wantLower);
    }

    private static void p15Best() {
        SignedSheets x = new SignedSheets();
        fraction("15 none", x.best(0, 8, 0), x.best(0, 8, 1), 0, 1);
        fraction("15 none", x.best(9, 0, 0), x.best(9, 0, 1), 0, 1);
        fraction("15 one of two", x.best(1, 2, 0), x.best(1, 2, 1), 55, 9);
        fraction("15 all", x.best(8, 8, 0), x.best(8, 8, 1), 40, 1);
        for (int k = 1; k <= 9; k++) {
            x.weight(k, k == 1 ? 9 : k == 9 ? 1 : 0);
        }
        // 9 with one tenth, else 1: waiting is worth 1.8 in the last year, 2.52 in the one before
        fraction("15 one of one", x.best(1, 1, 0), x.best(1, 1, 1), 9, 5);
        fraction("15 one of two", x.best(1, 2, 0), x.best(1, 2, 1), 63, 25);
        for (int k = 1; k <= 9; k++) {
            x.weight(k, 9);
        }
        fraction("15 heavy", x.best(3, 8, 0), x.best(3, 8, 1), 3782926, 177147);
        long[] wrong = {x.best(-1, 0, 0), x.best(10, 0, 0), x.best(0, -1, 0), x.best(0, 9, 0), x.best(0, 0, -1), x.best(0, 0, 2)};
        for (long answer : wrong) {
            due("15 outside", answer, REFUSED);
        }
    }

    private static void p16Least() {
        SignedSheets x = new SignedSheets();
        due("16 the same: he signs", x.least(1, 2), 5);
        due("16 enough", x.least(8, 8), 1);
        due("16 none", x.least(0, 8), NONE);
        due("16 none", x.least(9, 0), NONE);
        due("16 none", x.least(0, 0), NONE);
        due("16 n", x.least(-1, 0), OUTSIDE);
        due("16 n", x.least(10, 1), OUTSIDE);
        due("16 m", x.least(0, -1), OUTSIDE);
        due("16 m", x.least(0, 9), OUTSIDE);
        for (int k = 1; k <= 8; k++) {
            x.weight(k, 0);
        }
        due("16 only nines", x.least(1, 2), 9);
        x.weight(1, 9);
        due("16 a worth that is not offered", x.least(1, 2), 2);
    }

    private static void p17Price() {
        SignedSheets x = new SignedSheets();
        fraction("17 first", x.price(0, 1, 0), x.price(0, 1, 1), 5, 1);
        fraction("17 second", x.price(1, 2, 0), x.price(1, 2, 1), 35, 9);
        fraction("17 too many", x.price(8, 8, 0), x.price(8, 8, 1), 0, 1);
        fraction("17 no years", x.price(0, 0, 0), x.price(0, 0, 1), 0, 1);
        long[] wrong = {x.price(-1, 0, 0), x.price(9, 0, 0), x.price(0, -1, 0), x.price(0, 9, 0), x.price(0, 0, -1), x.price(0, 0, 2)};
        for (long answer : wrong) {
            due("17 outside", answer, REFUSED);
        }
    }

    private static void p18Last() {
        SignedSheets x = new SignedSheets();
        fraction("18 no years", x.last(0, 0, 9, 0), x.last(0, 0, 9, 1), 1, 1);
        fraction("18 none", x.last(0, 2, 1, 0), x.last(0, 2, 1, 1), 81, 100);
        fraction("18 one", x.last(1, 2, 1, 0), x.last(1, 2, 1, 1), 99, 100);
        fraction("18 enough", x.last(2, 2, 1, 0), x.last(2, 2, 1, 1), 1, 1);
        fraction("18 sure", x.last(8, 9, 10, 0), x.last(8, 9, 10, 1), 0, 1);
        fraction("18 sure", x.last(9, 9, 10, 0), x.last(9, 9, 10, 1), 1, 1);
        fraction("18 never", x.last(0, 9, 0, 0), x.last(0, 9, 0, 1), 1, 1);
        fraction("18 most", x.last(400, 9, 7, 0), x.last(400, 9, 7, 1), 1, 1);
        long[] wrong = {x.last(-1, 0, 0, 0), x.last(401, 0, 0, 0), x.last(0, -1, 0, 0), x.last(0, 10, 0, 0),
            x.last(0, 0, -1, 0), x.last(0, 0, 11, 0), x.last(0, 0, 0, -1), x.last(0, 0, 0, 2)};
        for (long answer : wrong) {
            due("18 outside", answer, REFUSED);
        }
    }

    private static void p19Netted() {
        SignedSheets x = people(90, 90, 90);
        live(x, "A=9BB=4CC=3A");
        due("19", x.netted(0), 1006);
        due("19", x.netted(1), 995);
        due("19", x.netted(2), 999);
        due("19 unknown", x.netted(3), UNKNOWN);
        due("19 unknown", x.netted(-1), UNKNOWN);
        due("19 unknown", x.netted(6), UNKNOWN);
    }

    private static void p20Hands() {
        SignedSheets x = people(90, 90, 90, 90, 90, 90);
        due("20 none", x.hands(), 0);
        live(x, "A=3BB=3CC=3A");
        due("20 a circle is quit", x.hands(), 0);
        live(x, "A=3D");
        due("20 one", x.hands(), 1);
        live(x, "B=4E");
        due("20 two", x.hands(), 2);
        live(x, "C=5F");
        due("20 three", x.hands(), 3);
        x = people(90, 90, 90, 90, 90, 90);
        live(x, "A=5DB=5EC=7FA=1EB=2FC=1D");
        due("20 A 6 B 7 C 8 and D -6 E -6 F -9", x.hands(), 4);
        x = people(90, 90, 90, 90);
        live(x, "A=1CA=2DB=2C");
        due("20 A 3 B 2 C -3 D -2", x.hands(), 2);
        x = people(90, 90, 90, 90, 90, 90);
        live(x, "A=4BA=4CD=1ED=7F");
        due("20 two circles of three", x.hands(), 4);
    }

    private static void p21Match() {
        SignedSheets x = new SignedSheets();
        due("21 nobody", x.match(0, 0), 0);
        due("21 nobody", x.match(0, 1), 1);
        due("21 nobody", x.match(1, 0), OUTSIDE);
        x.person(1, 0, 9);
        x.person(4, 0, 2);
        due("21 as they are", x.match(92, 0), 0);
        due("21 the others", x.match(29, 0), 0);
        due("21 one way", x.match(29, 1), 1);
        due("21 slips", x.match(1, 0), 10);
        due("21 both ways", x.match(55, 1), 2);
        due("21 most", x.match(99, 0), 7);
        due("21 digits", x.match(100, 0), OUTSIDE);
        due("21 below", x.match(-1, 0), OUTSIDE);
        due("21 what", x.match(0, 2), OUTSIDE);
        due("21 what", x.match(0, -1), OUTSIDE);
        x = people(0, 0, 0, 0, 0, 0);
        due("21 six", x.match(543210, 0), 0);
        due("21 six", x.match(999999, 1), 720);
        due("21 seven digits", x.match(1000000, 0), OUTSIDE);
    }

    private static void p22Wrote() {
        SignedSheets x = new SignedSheets();
        due("22 nobody", x.wrote(0, 0), OUTSIDE);
        x.person(1, 0, 9);
        x.person(4, 0, 2);
        x.person(5, 0, 2);
        due("22 first way", x.wrote(229, 0), 4);
        due("22 first way", x.wrote(229, 1), 5);
        due("22 first way", x.wrote(229, 2), 1);
        due("22 leading nought", x.wrote(92, 0), 4);
        due("22 leading nought", x.wrote(92, 1), 1);
        due("22 i", x.wrote(229, 3), OUTSIDE);
        due("22 i", x.wrote(229, -1), OUTSIDE);
        due("22 digits", x.wrote(1000, 0), OUTSIDE);
        due("22 below", x.wrote(-229, 0), OUTSIDE);
    }

    private static void p23Compare() {
        SignedSheets x = new SignedSheets();
        int[][] known = {{1, 1}, {2, 2}, {3, 2}, {4, 3}, {7, 3}, {8, 4}, {15, 4}, {16, 5}, {31, 5}, {32, 6}, {63, 6}, {64, 7}, {99, 7}};
        for (int[] k : known) {
            due("23 " + k[0], x.compare(k[0]), k[1]);
        }
        due("23 n", x.compare(0), OUTSIDE);
        due("23 n", x.compare(100), OUTSIDE);
        due("23 n", x.compare(-1), OUTSIDE);
    }

    private static void p24Blots() {
        SignedSheets x = new SignedSheets();
        fraction("24 no sheets", x.blots(0, 0, 9, 0), x.blots(0, 0, 9, 1), 1, 1);
        fraction("24 all", x.blots(2, 2, 3, 0), x.blots(2, 2, 3, 1), 49, 100);
        fraction("24 one", x.blots(2, 1, 3, 0), x.blots(2, 1, 3, 1), 91, 100);
        fraction("24 none", x.blots(2, 0, 3, 0), x.blots(2, 0, 3, 1), 1, 1);
        fraction("24 sure", x.blots(9, 1, 10, 0), x.blots(9, 1, 10, 1), 0, 1);
        fraction("24 never", x.blots(9, 9, 0, 0), x.blots(9, 9, 0, 1), 1, 1);
        long[] wrong = {x.blots(-1, 0, 0, 0), x.blots(10, 0, 0, 0), x.blots(5, -1, 0, 0), x.blots(5, 6, 0, 0),
            x.blots(0, 0, -1, 0), x.blots(0, 0, 11, 0), x.blots(0, 0, 0, -1), x.blots(0, 0, 0, 2)};
        for (long answer : wrong) {
            due("24 outside", answer, REFUSED);
        }
    }

    private static void p25Seen() {
        SignedSheets x = new SignedSheets();
        int[] wrong = {x.seen(-1, 1, 1, true), x.seen(10, 1, 1, true), x.seen(0, 0, 1, true), x.seen(0, 9, 1, true),
            x.seen(0, 1, 0, true), x.seen(0, 1, 10, true)};
        for (int answer : wrong) {
            due("25 outside", answer, OUTSIDE);
        }
        due("25 low", x.seen(0, 1, 1, false), 1);
        due("25 high", x.seen(9, 8, 9, true), 2);
        for (int i = 3; i <= 8; i++) {
            due("25 more", x.seen(1, 1, 9, true), i);
        }
        due("25 full", x.seen(1, 1, 9, true), FULL);
        due("25 outside ahead of full", x.seen(1, 1, 10, true), OUTSIDE);
        due("25 count", x.told(3), 8);
    }

    private static void p26Forget() {
        SignedSheets x = new SignedSheets();
        due("26 none", x.forget(), 0);
        x.seen(1, 1, 9, false);
        x.seen(1, 1, 9, false);
        due("26 were", x.forget(), 2);
        due("26 gone", x.told(3), 0);
        due("26 all fit again", x.signs(), 4095);
    }

    private static void p27Signs() {
        SignedSheets x = new SignedSheets();
        x.seen(0, 1, 9, false);
        due("27 nobody signs without sheets", x.signs(), 4095);
        x.seen(1, 8, 9, true);
        due("27 a nine is signed", x.signs(), 4095);
        x.seen(1, 8, 1, false);
        due("27 a one is not, with little", x.signs(), 4092);
        x.seen(8, 8, 1, false);
        due("27 a one is not, with plenty", x.signs(), 1020);
        x.seen(1, 8, 4, true);
        due("27 a four is", x.signs(), 28);
        x.forget();
        x.seen(1, 8, 5, false);
        due("27 a five is signed without plenty", x.signs() >> 11, 0);
        x.forget();
        x.seen(1, 8, 4, true);
        due("27 a four is not", x.signs() >> 11, 0);
        x.forget();
        x.seen(8, 8, 1, true);
        due("27 plenty", x.signs() >> 11, 1);
        x.forget();
        x.seen(7, 8, 1, true);
        due("27 not quite plenty", x.signs() >> 11, 0);
        x.forget();
        x.seen(1, 2, 2, true);
        due("27 two", x.signs(), 7);
        for (int k = 2; k <= 8; k++) {
            x.weight(k, 0);
        }
        x.weight(1, 9);
        due("27 by the weights as they are: two is enough", x.signs(), 1031);
    }

    private static void p28Watch() {
        SignedSheets x = new SignedSheets();
        due("28 what", x.watch(2), OUTSIDE);
        due("28 what", x.watch(-1), OUTSIDE);
        due("28 first", x.watch(0), 113);
        due("28 first", x.watch(1), 6);
        x.seen(1, 8, 8, false);
        due("28 nine alone", x.signs(), 512);
        due("28 one: any will do", x.watch(0), 11);
        due("28 one: any will do", x.watch(1), 1);
        x.seen(1, 8, 9, false);
        due("28 none fits", x.watch(0), NONE);
        due("28 none fits", x.watch(1), NONE);
        due("28 outside ahead", x.watch(2), OUTSIDE);
        watchInTheLastPlace();
    }

    /** 4 with nine tenths, else 6: habits 10 and 11 part nowhere but where LEAST is 6, with one sheet in eight years. */
    private static void watchInTheLastPlace() {
        SignedSheets x = new SignedSheets();
        x.weight(4, 9);
        for (int k : new int[] {1, 2, 3, 5, 7, 8, 9}) {
            x.weight(k, 0);
        }
        due("28 least", x.least(1, 7), 5);
        due("28 least", x.least(1, 8), 6);
        x.seen(1, 2, 4, false);
        x.seen(1, 2, 5, true);
        x.seen(1, 1, 1, true);
        due("28 two fit", x.signs(), 3072);
        due("28 they part", x.watch(0), 185);
        due("28 they part", x.watch(1), 1);
    }

    private static void p29Book() {
        SignedSheets x = new SignedSheets();
        due("29 nobody", x.book(9999, 99, 0), 0);
        x = people(5, 5, 1);
        // x and what follows: 74 C 4; 5624 C 2; 28652 C 6; 51790 E 1; 17641 B 7; 12409 B 8
        due("29 signed", x.book(0, 1, 0), 4);
        due("29 signed", x.book(0, 1, 1), 0);
        due("29 without", x.book(0, 1, 2), 1);
        due("29 second is forged", x.book(0, 2, 0), 6);
        due("29 second is forged", x.book(0, 2, 1), 1);
        due("29 third", x.book(0, 3, 0), 12);
        due("29 who is not there does nothing", x.book(0, 4, 0), 12);
        due("29 who is not there does nothing", x.book(0, 4, 1), 2);
        due("29 fifth", x.book(0, 5, 0), 19);
        due("29 sixth", x.book(0, 6, 0), 27);
        due("29 sixth", x.book(0, 6, 1), 2);
        due("29 nothing in fact", x.state(2, 0), 1);
        due("29 nothing in fact", x.told(2), 0);
        live(x, "A9B!3");
        due("29 from all as it is", x.book(0, 2, 0), 18);
        due("29 forged in it", x.book(0, 2, 1), 1);
        int[] wrong = {x.book(-1, 1, 0), x.book(10000, 1, 0), x.book(0, 0, 0), x.book(0, 100, 0), x.book(0, 1, -1), x.book(0, 1, 3)};
        for (int answer : wrong) {
            due("29 outside", answer, OUTSIDE);
        }
    }

    private static void p30Image() {
        SignedSheets x = people(5);
        due("30", x.image(0), 1);
        due("30 outside", x.image(2), OUTSIDE);
        due("30 outside", x.image(-1), OUTSIDE);
        due("30 the other is not", x.restore(1), STATE);
        x.person(0, 6, 0);
        due("30 anew", x.image(0), 1);
        x.person(0, 7, 0);
        x.restore(0);
        due("30 the last one", x.state(0, 0), 6);
    }

    private static void p31Restore() {
        SignedSheets x = people(50, 50);
        live(x, "A=3BB!4A5.");
        x.weight(3, 7);
        x.seen(1, 2, 3, true);
        x.image(1);
        long before = x.best(1, 1, 0);
        x.die(1);
        x.person(3, 1, 1);
        live(x, "A9.A!1");
        x.weight(9, 9);
        x.weight(3, 0);
        x.best(1, 1, 0);
        x.forget();
        x.seen(9, 8, 7, false);
        x.seen(9, 8, 7, false);
        pad(x, "A1");
        due("31", x.restore(1), 1);
        due("31 pad stays", x.told(0), 2);
        due("31 people", x.told(1), 3);
        due("31 year", x.told(2), 1);
        due("31 sights", x.told(3), 1);
        due("31 weight", x.told(13), 7);
        due("31 weight", x.told(19), 1);
        due("31 tail", x.told(21), 1);
        due("31 debt", x.owes(1, 0), 3);
        holds("31", x, 0, 46, 5, 0);
        holds("31", x, 1, 53, 4, 1);
        due("31 best", x.best(1, 1, 0), before);
        due("31 signs", x.signs(), 15);
        x.person(0, 1, 1);
        due("31 again", x.restore(1), 1);
        due("31 again", x.state(0, 0), 46);
        due("31 state", x.restore(0), STATE);
        due("31 outside", x.restore(2), OUTSIDE);
        due("31 outside", x.restore(-1), OUTSIDE);
    }

    private static void p32Told() {
        SignedSheets x = people(1, 1, 1);
        x.die(1);
        pad(x, "A1");
        due("32 signs", x.told(0), 2);
        due("32 persons", x.told(1), 5);
        x.weight(1, 0);
        due("32 weight", x.told(11), 0);
        due("32 weight", x.told(19), 1);
        due("32 tail", x.told(20), 0);
        due("32 tail", x.told(22), 2);
        for (int what : new int[] {-1, 4, 9, 10, 21, 23, 25, 26, 30, Integer.MIN_VALUE, Integer.MAX_VALUE}) {
            due("32 outside " + what, x.told(what), OUTSIDE);
        }
    }

    private static void refusalsInOrder() {
        SignedSheets x = pad(people(1), "A");
        due("UNKNOWN ahead of OUTSIDE ahead of NO", x.behind(1, 9), UNKNOWN);
        due("OUTSIDE ahead of NO", x.behind(0, 9), OUTSIDE);
        due("OUTSIDE ahead of STATE", x.restore(9), OUTSIDE);
    }
}
