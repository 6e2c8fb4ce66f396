/** Each sentence of the document that names a boundary case, promises 15 to 20: which to sign, debts. */
public final class BoundsPlansTest {
    private static final Sentences S = new Sentences();

    public static void main(String[] args) {
        fractions();
        p15Best();
        p16Least();
        p17Price();
        p18Last();
        p19Netted();
        p20Hands();
        S.end("BoundsPlansTest");
    }

    private static void fractions() {
        S.says("refused with LOST and the refusal", """
            best 10 8 0 -> LOST+OUTSIDE
            price 9 8 0 -> LOST+OUTSIDE
            last 401 9 10 0 -> LOST+OUTSIDE
            blots 10 9 10 0 -> LOST+OUTSIDE
            """);
        S.says("in lowest terms: nought by 1, one by 1, halves", """
            best 0 0 -> 0/1
            price 0 0 -> 0/1
            last 0 1 10 -> 0/1
            blots 1 1 10 -> 0/1
            last 0 0 0 -> 1/1
            blots 0 0 0 -> 1/1
            last 4 9 5 -> 1/2
            blots 9 5 5 -> 1/2
            """);
        S.says("in lowest terms: the largest numbers", """
            weight 1 9
            weight 2 9
            weight 3 9
            weight 4 9
            weight 5 9
            weight 6 9
            weight 7 9
            weight 8 9
            weight 9 7
            best 1 8 -> 11930692287736800/1517108809906561
            best 4 8 -> 39793067412216030/1517108809906561
            best 9 8 -> 3096/79
            """);
    }

    private static void p15Best() {
        S.limits("BEST: n sheets (0 to 9)", "best ? 8 0", 0, 9, "LOST+OUTSIDE");
        S.limits("BEST: m years (0 to 8)", "best 9 ? 1", 0, 8, "LOST+OUTSIDE");
        S.limits("BEST: part 0 the upper, 1 the lower", "best 9 8 ?", 0, 1, "LOST+OUTSIDE");
        S.limits("BEST of no years: n sheets (0 to 9)", "best ? 0 0", 0, 9, "LOST+OUTSIDE");
        S.limits("BEST of no sheets: m years (0 to 8)", "best 0 ? 0", 0, 8, "LOST+OUTSIDE");
        S.says("no sheets, no years: he has nothing", """
            best 0 0 -> 0/1
            best 0 1 -> 0/1
            best 0 8 -> 0/1
            best 1 0 -> 0/1
            best 9 0 -> 0/1
            """);
        S.says("as many sheets as years, and more: he signs all", """
            best 1 1 -> 5/1
            best 2 1 -> 5/1
            best 9 1 -> 5/1
            best 8 8 -> 40/1
            best 9 8 -> 40/1
            """);
        S.says("a sheet less than years", """
            best 1 2 -> 55/9
            best 7 8 -> 20199970/531441
            best 1 8 -> 4256740/531441
            """);
        for (int k = 1; k <= 9; k++) {
            StringBuilder rows = new StringBuilder();
            for (int other = 1; other <= 9; other++) {
                rows.append("weight ").append(other).append(other == k ? " 9\n" : " 0\n");
            }
            S.says("one WEIGHT at least is above 0: of one alone", rows + "best 1 8 -> " + k + "/1\nbest 8 8 -> " + 8 * k
                + "/1\nbest 9 8 -> " + 8 * k + "/1\nbest 3 5 -> " + 3 * k + "/1\nleast 1 8 -> " + k + "\nleast 8 8 -> 1\nprice 0 1 -> " + k + "/1\nprice 1 1 -> 0/1");
        }
        S.says("by all WEIGHTS: 0 at one end, 9 at the other", """
            weight 2 0
            weight 3 0
            weight 4 0
            weight 5 0
            weight 6 0
            weight 7 0
            weight 8 0
            weight 1 9
            best 1 1 -> 9/5
            weight 9 9 -> 1
            best 1 1 -> 5/1
            best 1 8 -> 287/32
            weight 1 0 -> 9
            best 1 1 -> 9/1
            """);
    }

    private static void p16Least() {
        S.limits("LEAST: n 0 to 9", "least ? 8", 0, 9, "OUTSIDE");
        S.limits("LEAST: m 0 to 8", "least 9 ?", 0, 8, "OUTSIDE");
        S.says("NONE: n or m is 0", """
            least 0 0 -> NONE
            least 0 1 -> NONE
            least 0 8 -> NONE
            least 1 0 -> NONE
            least 9 0 -> NONE
            """);
        S.says("OUTSIDE ahead of NONE", """
            least 0 9 -> OUTSIDE
            least 0 -1 -> OUTSIDE
            least 10 0 -> OUTSIDE
            least -1 0 -> OUTSIDE
            """);
        S.says("if it is the same, he signs: 5 of 1 in 2 years, where waiting is worth 5", """
            least 1 2 -> 5
            weight 9 0
            # waiting is worth 4 and a half now
            least 1 2 -> 5
            weight 9 2
            # and 5 and two fifths now
            least 1 2 -> 6
            """);
        S.says("the least worth (1 to 9): with as many sheets as years 1, and 9 where 9 alone are offered often", """
            least 1 1 -> 1
            least 8 8 -> 1
            least 9 8 -> 1
            least 7 8 -> 3
            least 1 8 -> 8
            weight 2 0
            weight 3 0
            weight 4 0
            weight 5 0
            weight 6 0
            weight 7 0
            weight 8 0
            least 1 2 -> 5
            least 1 4 -> 8
            least 1 5 -> 9
            least 1 8 -> 9
            """);
    }

    private static void p17Price() {
        S.limits("PRICE: n 0 to 8", "price ? 8 0", 0, 8, "LOST+OUTSIDE");
        S.limits("PRICE: m years (0 to 8)", "price 8 ? 1", 0, 8, "LOST+OUTSIDE");
        S.limits("PRICE: part 0 the upper, 1 the lower", "price 8 8 ?", 0, 1, "LOST+OUTSIDE");
        S.says("by one sheet more: the first, the last that helps, one too many", """
            price 0 0 -> 0/1
            price 8 0 -> 0/1
            price 0 1 -> 5/1
            price 1 1 -> 0/1
            price 0 8 -> 4256740/531441
            price 7 8 -> 1057670/531441
            price 8 8 -> 0/1
            """);
    }

    private static void p18Last() {
        S.limits("LAST: n sheets (0 to 400)", "last ? 9 5 0", 0, 400, "LOST+OUTSIDE");
        S.limits("LAST: m years (0 to 9)", "last 4 ? 5 0", 0, 9, "LOST+OUTSIDE");
        S.limits("LAST: t tenths (0 to 10)", "last 4 9 ? 1", 0, 10, "LOST+OUTSIDE");
        S.limits("LAST: part 0 the upper, 1 the lower", "last 4 9 5 ?", 0, 1, "LOST+OUTSIDE");
        S.says("no years: no sheets are enough", """
            last 0 0 0 -> 1/1
            last 0 0 10 -> 1/1
            last 400 0 10 -> 1/1
            """);
        S.says("no tenths, all ten tenths", """
            last 0 9 0 -> 1/1
            last 0 1 10 -> 0/1
            last 1 1 10 -> 1/1
            last 8 9 10 -> 0/1
            last 9 9 10 -> 1/1
            last 10 9 10 -> 1/1
            """);
        S.says("no sheets, one less than years, as many, more", """
            last 0 9 1 -> 387420489/1000000000
            last 0 9 9 -> 1/1000000000
            last 8 9 1 -> 999999999/1000000000
            last 8 9 9 -> 612579511/1000000000
            last 9 9 9 -> 1/1
            last 10 9 9 -> 1/1
            last 400 9 9 -> 1/1
            """);
    }

    private static void p19Netted() {
        for (int p : new int[] {-1, 3, 5, 6, 32, Integer.MIN_VALUE, Integer.MAX_VALUE}) {
            S.says("NETTED: UNKNOWN", Sentences.FULL_LIFE + "netted " + p + " -> UNKNOWN");
        }
        S.says("and 1000: who owes nothing, who owes 1, whom others owe 1", """
            person 0 9 0
            person 1 9 0
            person 2 9 0
            netted 0 -> 1000
            live A=1B -> 1
            netted 0 -> 1001
            netted 1 -> 999
            netted 2 -> 1000
            live B=1A -> 1
            netted 0 -> 1000
            netted 1 -> 1000
            """);
        S.says("the most that others can owe him: five times 99", """
            person 0 400 0
            person 1 0 0
            person 2 0 0
            person 3 0 0
            person 4 0 0
            person 5 0 0
            live A=9B x 11 -> 11
            live A=9C x 11 -> 11
            live A=9D x 11 -> 11
            live A=9E x 11 -> 11
            person 0 99 0
            live A=9F x 11 -> 11
            netted 0 -> 1495
            netted 1 -> 901
            netted 5 -> 901
            hands -> 5
            die 5 -> 5
            netted 0 -> 1396
            """);
        S.says("the most that he can owe: five times 99", """
            person 0 0 0
            person 1 99 0
            person 2 99 0
            person 3 99 0
            person 4 99 0
            person 5 99 0
            live B=9A x 11 -> 11
            live C=9A x 11 -> 11
            live D=9A x 11 -> 11
            live E=9A x 11 -> 11
            live F=9A x 11 -> 11
            state 0 0 -> 400
            netted 0 -> 505
            netted 1 -> 1099
            netted 5 -> 1099
            hands -> 5
            """);
    }

    private static void p20Hands() {
        String six = """
            person 0 90 0
            person 1 90 0
            person 2 90 0
            person 3 90 0
            person 4 90 0
            person 5 90 0
            """;
        S.says("none: nobody is there, nobody owes", "hands -> 0\n" + six + "hands -> 0");
        S.says("none: what both owe each other is as much", six + "live A=4BB=4A -> 2\nhands -> 0");
        S.says("none: a circle of all six", six + "live A=2BB=2CC=2DD=2EE=2FF=2A -> 6\nhands -> 0");
        S.says("one: both owe, the one more", six + "live A=4BB=3A -> 2\nhands -> 1");
        S.says("one: he is left out by whom as much goes", six + "live A=4BB=4C -> 2\nhands -> 1");
        S.says("one: along all six", six + "live A=4BB=4CC=4DD=4EE=4F -> 5\nhands -> 1");
        S.says("two, three: pairs", six + "live A=4BC=4D -> 2\nhands -> 2\nlive E=4F -> 1\nhands -> 3");
        S.says("three: pairs that do not owe each other", six + "live A=3EB=3DB=1FC=1EC=4F -> 5\n"
            + "# A 3, B 4, C 5 against D 3, E 4, F 5\nhands -> 3");
        S.says("four: a pair and four", six + "live A=1DA=2EB=2EB=2FC=1DC=4F -> 6\n"
            + "# A 3, B 4, C 5 against D 2, E 4, F 6\nhands -> 4");
        S.says("five: one against five, at the most", six + "live A=1BA=2CA=3DA=4EA=5F -> 5\nhands -> 5");
        S.says("four, and then five: no part of them is quit by itself", six + "live A=1DA=9EB=9EB=1FC=9F -> 5\nhands -> 4\nlive A=1D -> 1\n"
            + "# A 11, B 10, C 9 against D 2, E 18, F 10: B and F are a pair\nhands -> 4\nlive C=2E -> 1\n"
            + "# A 11, B 10, C 11 against D 2, E 20, F 10\nhands -> 4\nlive D=1F -> 1\n# A 11, B 10, C 11 against D 1, E 20, F 11\nhands -> 4\n"
            + "live B=2F -> 1\n# A 11, B 12, C 11 against D 1, E 20, F 13\nhands -> 5");
        S.says("DEBTS are quit with who dies: no hands for them", six + "live A=4BC=3D -> 2\nhands -> 2\ndie 0 -> 5\nhands -> 1\ndie 3 -> 4\nhands -> 0");
        S.says("for DEBTS alone: given and stolen ones need none", six + "live A>4BC<3D -> 2\nhands -> 0");
    }
}
