import java.util.function.BiConsumer;

/** Calls that tell of few numbers, with all of these numbers and some on either side, against the oracle. */
public final class SweepTest {
    private static final int CALLS = 512;
    private static final int[][] WEIGHTS = {{1, 1, 1, 1, 1, 1, 1, 1, 1}, {9, 9, 9, 9, 9, 9, 9, 9, 9}, {9, 9, 9, 9, 9, 9, 9, 9, 7},
        {9, 0, 0, 0, 0, 0, 0, 0, 1}, {1, 0, 0, 0, 0, 0, 0, 0, 9}, {0, 0, 0, 9, 0, 1, 0, 0, 0}, {5, 0, 0, 0, 0, 0, 0, 0, 0},
        {0, 0, 0, 0, 0, 0, 0, 0, 2}, {0, 3, 8, 0, 7, 1, 0, 9, 4}};

    private final Due due = new Due();
    private SignedSheets x;
    private Oracle o;
    private int calls;
    private BiConsumer<SignedSheets, Oracle> beginning;

    public static void main(String[] args) {
        SweepTest t = new SweepTest();
        for (int[] weights : WEIGHTS) {
            t.begin((s, o) -> setWeights(s, o, weights));
            t.plans();
            t.sights(weights == WEIGHTS[0] ? 1 : 13);
        }
        t.begin((s, o) -> { });
        t.chances();
        for (int n = -2; n <= 102; n++) {
            t.next();
            t.due.is("compare(" + n + ")", t.x.compare(n), t.o.compare(n));
        }
        t.tails();
        t.books();
        t.due.end("SweepTest");
    }

    private static void setWeights(SignedSheets s, Oracle o, int[] weights) {
        // 9 first, so that one is above 0 all the while
        for (int k = 1; k <= 9; k++) {
            s.weight(k, 9);
            o.weight(k, 9);
        }
        for (int k = 1; k <= 9; k++) {
            s.weight(k, weights[k - 1]);
            o.weight(k, weights[k - 1]);
        }
    }

    private void begin(BiConsumer<SignedSheets, Oracle> how) {
        beginning = how;
        calls = CALLS;
        next();
    }

    /** A new object as soon as the old one might have had its 512 calls: no beginning here has more than 24, no step more than 5. */
    private void next() {
        calls += 5;
        if (calls > CALLS) {
            x = new SignedSheets();
            o = new Oracle();
            beginning.accept(x, o);
            calls = 24 + 5;
        }
    }

    private void plans() {
        for (int n = -1; n <= 10; n++) {
            for (int m = -1; m <= 9; m++) {
                next();
                due.is("least(" + n + ", " + m + ")", x.least(n, m), o.least(n, m));
                for (int part = -1; part <= 2; part++) {
                    next();
                    due.is("best(" + n + ", " + m + ", " + part + ")", x.best(n, m, part), o.best(n, m, part));
                    due.is("price(" + n + ", " + m + ", " + part + ")", x.price(n, m, part), o.price(n, m, part));
                }
            }
        }
    }

    private void sights(int step) {
        for (int i = 0; i < 12 * 10 * 11 * 2; i += step) {
            int n = i / 220 - 1;
            int m = i / 22 % 10;
            int w = i / 2 % 11;
            boolean signed = i % 2 == 1;
            next();
            due.is("seen(" + n + ", " + m + ", " + w + ", " + signed + ")", x.seen(n, m, w, signed), o.seen(n, m, w, signed));
            due.is("signs() behind it", x.signs(), o.signs());
            due.is("watch(0) behind it", i % 9 == 0 ? x.watch(0) : 0, i % 9 == 0 ? o.watch(0) : 0);
            due.is("forget() behind it", x.forget(), o.forget());
        }
    }

    private void chances() {
        for (int m = -1; m <= 10; m++) {
            for (int t = -1; t <= 11; t++) {
                for (int part = -1; part <= 2; part++) {
                    for (int n = -1; n <= 11; n++) {
                        next();
                        due.is("last(" + n + ", " + m + ", " + t + ", " + part + ")", x.last(n, m, t, part), o.last(n, m, t, part));
                        due.is("blots(" + m + ", " + n + ", " + t + ", " + part + ")", x.blots(m, n, t, part), o.blots(m, n, t, part));
                    }
                }
                for (int n = 399; n <= 402; n++) {
                    next();
                    due.is("last(" + n + ", " + m + ", " + t + ", 0)", x.last(n, m, t, 0), o.last(n, m, t, 0));
                }
            }
        }
    }

    private void tails() {
        int[][] tailsOf = {{}, {5}, {0, 9}, {9, 0}, {4, 4}, {3, 7, 5}, {0, 0, 9}, {9, 8, 7}, {2, 2, 2}, {1, 9, 3, 7}, {5, 5, 0, 9, 5, 5}};
        for (int[] tails : tailsOf) {
            begin((s, o) -> {
                for (int p = 0; p < tails.length; p++) {
                    s.person(5 - p, 0, tails[p]);
                    o.person(5 - p, 0, tails[p]);
                }
            });
            int bound = (int) Math.pow(10, tails.length);
            int step = bound <= 1000 ? 1 : bound / 97;
            for (int number = -1; number <= bound; number += step) {
                next();
                due.is("match(" + number + ", 0)", x.match(number, 0), o.match(number, 0));
                due.is("match(" + number + ", 1)", x.match(number, 1), o.match(number, 1));
                for (int i = -1; i <= tails.length; i++) {
                    next();
                    due.is("wrote(" + number + ", " + i + ")", x.wrote(number, i), o.wrote(number, i));
                }
            }
        }
    }

    private void books() {
        begin((s, o) -> {
            for (int p = 0; p < 6; p++) {
                if (p != 3) {
                    s.person(p, 4 * p, p);
                    o.person(p, 4 * p, p);
                }
            }
        });
        for (int seed = -1; seed <= 10000; seed++) {
            next();
            due.is("book(" + seed + ", 1, 0)", x.book(seed, 1, 0), o.book(seed, 1, 0));
            int m = seed % 103;
            for (int what = 0; what <= 2; what++) {
                due.is("book(" + seed + ", " + m + ", " + what + ")", x.book(seed, m, what), o.book(seed, m, what));
            }
        }
    }
}
