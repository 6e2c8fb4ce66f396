/** Each sentence of the document that names a boundary case, promises 21 to 32: tails, forgeries, habits. */
public final class BoundsTailsTest {
    private static final Sentences S = new Sentences();

    public static void main(String[] args) {
        p21Match();
        p22Wrote();
        wroteWithoutMatch();
        p21And22DigitsOfAsMany();
        p23Compare();
        p24Blots();
        p25Seen();
        p26Forget();
        p27Signs();
        p28Watch();
        p29Book();
        p30Image();
        p31Restore();
        p32Told();
        S.end("BoundsTailsTest");
    }

    private static void p21Match() {
        S.limits("MATCH: slips (what = 0), ways (1)", "match 1234 ?", 0, 1, "OUTSIDE");
        S.limits("MATCH: below 0, more digits than there are PERSONS", "match ? 0", 0, 9999, "OUTSIDE");
        S.limits("MATCH, the ways: below 0, more digits than there are PERSONS", "match ? 1", 0, 9999, "OUTSIDE");
        S.says("the first act's is the highest digit, also where that is 0", """
            person 0 0 9
            person 1 0 0
            match 9 0 -> 0
            match 9 1 -> 1
            wrote 9 0 -> 1
            wrote 9 1 -> 0
            match 90 0 -> 0
            wrote 90 0 -> 0
            wrote 90 1 -> 1
            """);
        S.says("a slip is how far: on either side, none, 9", """
            person 3 0 4
            match 4 0 -> 0
            match 3 0 -> 1
            match 5 0 -> 1
            match 0 0 -> 4
            match 9 0 -> 5
            person 3 0 0
            match 9 0 -> 9
            person 3 0 9
            match 0 0 -> 9
            """);
        S.says("how many ways have so few: one, all", """
            person 0 0 0
            person 1 0 9
            match 9 1 -> 1
            match 99 1 -> 2
            match 0 1 -> 2
            match 45 1 -> 1
            match 45 0 -> 8
            match 54 0 -> 8
            wrote 54 0 -> 1
            """);
        S.says("who died has no act there any more", """
            person 0 0 1
            person 1 0 2
            match 12 0 -> 0
            die 0 -> 1
            match 12 0 -> OUTSIDE
            match 9 0 -> 7
            wrote 9 0 -> 1
            wrote 9 1 -> OUTSIDE
            """);
    }

    private static void p22Wrote() {
        S.limits("the i-th act (from 0 on)", "wrote 1234 ?", 0, 3, "OUTSIDE");
        S.limits("OUTSIDE, likewise: below 0, more digits than there are PERSONS", "wrote ? 0", 0, 9999, "OUTSIDE");
        S.says("the first such way: rising by the first act's PERSON, and so on", """
            person 1 0 5
            person 3 0 6
            person 4 0 6
            match 240 1 -> 6
            wrote 240 0 -> 1
            wrote 240 1 -> 3
            wrote 240 2 -> 4
            match 660 1 -> 2
            wrote 660 0 -> 3
            wrote 660 1 -> 4
            wrote 660 2 -> 1
            """);
    }

    private static void wroteWithoutMatch() {
        S.says("who wrote it, when nobody asked for the slips", """
            person 0 0 1
            person 1 0 8
            wrote 81 0 -> 1
            wrote 18 0 -> 0
            wrote 81 1 -> 0
            person 0 0 9
            wrote 98 0 -> 0
            person 0 0 0
            wrote 90 0 -> 1
            """);
    }

    private static void p21And22DigitsOfAsMany() {
        int bound = 1;
        int ways = 1;
        for (int count = 0; count <= 6; count++) {
            StringBuilder rows = new StringBuilder();
            for (int p = 6 - count; p < 6; p++) {
                rows.append("person ").append(p).append(" 0 0\n");
            }
            rows.append("match 0 0 -> 0\nmatch 0 1 -> " + ways + "\n");
            rows.append("match " + (bound - 1) + " 0 -> " + 9 * count + "\nmatch " + (bound - 1) + " 1 -> " + ways + "\n");
            rows.append("match " + bound + " 0 -> OUTSIDE\nmatch " + bound + " 1 -> OUTSIDE\nmatch -1 0 -> OUTSIDE\nmatch MIN 0 -> OUTSIDE\nmatch MAX 0 -> OUTSIDE\n");
            for (int i = 0; i < count; i++) {
                rows.append("wrote 0 " + i + " -> " + (6 - count + i) + "\nwrote " + (bound - 1) + " " + i + " -> " + (6 - count + i) + "\n");
            }
            rows.append("wrote 0 " + count + " -> OUTSIDE\nwrote 0 -1 -> OUTSIDE\nwrote 0 MIN -> OUTSIDE\nwrote 0 MAX -> OUTSIDE\n");
            rows.append("wrote " + bound + " 0 -> OUTSIDE\nwrote -1 0 -> OUTSIDE\nwrote MIN 0 -> OUTSIDE\nwrote MAX 0 -> OUTSIDE\n");
            S.says("as many digits as there are PERSONS: " + count, rows.toString());
            bound *= 10;
            ways *= count + 1;
        }
    }

    private static void p23Compare() {
        S.limits("COMPARE: n acts (1 to 99)", "compare ?", 1, 99, "OUTSIDE");
        S.says("which is, or that none is: one more case than there are acts", """
            compare 0 -> OUTSIDE
            compare 1 -> 1
            compare 2 -> 2
            compare 3 -> 2
            compare 4 -> 3
            compare 7 -> 3
            compare 8 -> 4
            compare 15 -> 4
            compare 16 -> 5
            compare 31 -> 5
            compare 32 -> 6
            compare 63 -> 6
            compare 64 -> 7
            compare 98 -> 7
            compare 99 -> 7
            compare 100 -> OUTSIDE
            """);
    }

    private static void p24Blots() {
        S.limits("BLOTS: n sheets (0 to 9)", "blots ? 0 5 0", 0, 9, "LOST+OUTSIDE");
        S.limits("BLOTS: t tenths (0 to 10)", "blots 9 5 ? 0", 0, 10, "LOST+OUTSIDE");
        S.limits("BLOTS: part 0 the upper, 1 the lower", "blots 9 5 5 ?", 0, 1, "LOST+OUTSIDE");
        for (int n = 0; n <= 9; n++) {
            S.limits("k 0 to n, of n = " + n, "blots " + n + " ? 5 0", 0, n, "LOST+OUTSIDE");
        }
        S.says("none at least are clean: that is sure", """
            blots 0 0 0 -> 1/1
            blots 0 0 10 -> 1/1
            blots 9 0 10 -> 1/1
            blots 9 0 9 -> 1/1
            """);
        S.says("no tenths, all ten tenths", """
            blots 9 9 0 -> 1/1
            blots 1 1 0 -> 1/1
            blots 9 1 10 -> 0/1
            blots 1 1 10 -> 0/1
            """);
        S.says("one at least, all", """
            blots 9 1 9 -> 612579511/1000000000
            blots 9 1 1 -> 999999999/1000000000
            blots 9 9 9 -> 1/1000000000
            blots 9 9 1 -> 387420489/1000000000
            blots 1 1 5 -> 1/2
            """);
    }

    private static void p25Seen() {
        S.limits("SIGHTS: n sheets (0 to 9), he signed", "seen ? 1 9 true", 0, 9, "OUTSIDE");
        S.limits("SIGHTS: n sheets (0 to 9), he did not", "seen ? 1 1 false", 0, 9, "OUTSIDE");
        S.limits("SIGHTS: m years yet (1 to 8)", "seen 0 ? 1 false", 1, 8, "OUTSIDE");
        S.limits("SIGHTS: an act worth w (1 to 9)", "seen 0 1 ? false", 1, 9, "OUTSIDE");
        S.says("8 at most", """
            seen 0 1 1 false -> 1
            seen 9 8 9 true -> 2
            seen 0 1 1 false -> 3
            seen 0 1 1 false -> 4
            seen 0 1 1 false -> 5
            seen 0 1 1 false -> 6
            seen 0 1 1 false -> 7
            seen 0 1 1 false -> 8
            seen 0 1 1 false -> FULL
            seen 0 1 1 true -> FULL
            told 3 -> 8
            signs -> 4095
            """);
        S.says("OUTSIDE ahead of FULL", """
            seen 0 1 1 false
            seen 0 1 1 false
            seen 0 1 1 false
            seen 0 1 1 false
            seen 0 1 1 false
            seen 0 1 1 false
            seen 0 1 1 false
            seen 0 1 1 false -> 8
            seen -1 1 1 true -> OUTSIDE
            seen 10 1 1 true -> OUTSIDE
            seen 0 0 1 true -> OUTSIDE
            seen 0 9 1 true -> OUTSIDE
            seen 0 1 0 true -> OUTSIDE
            seen 0 1 10 true -> OUTSIDE
            seen 0 1 1 true -> FULL
            """);
        S.says("FULL no more, when SIGHTS went", """
            seen 0 1 1 false
            seen 0 1 1 false
            seen 0 1 1 false
            seen 0 1 1 false
            seen 0 1 1 false
            seen 0 1 1 false
            seen 0 1 1 false
            seen 0 1 1 false -> 8
            forget -> 8
            seen 9 8 1 false -> 1
            signs -> 1020
            """);
    }

    private static void p26Forget() {
        S.says("how many there were: none, one, and again none", """
            forget -> 0
            seen 1 1 9 false -> 1
            signs -> 0
            forget -> 1
            forget -> 0
            told 3 -> 0
            signs -> 4095
            """);
    }

    private static void p27Signs() {
        S.says("no SIGHTS: all habits", "signs -> 4095");
        for (int w = 1; w <= 9; w++) {
            int signing = (1 << w + 1) - 1 | 3 << 10;
            S.says("habit 0 to 9: he signs what is worth that at least (10 and 11 sign all, with plenty)", "seen 9 8 " + w + " true -> 1\nsigns -> "
                + signing + "\nforget -> 1\nseen 9 8 " + w + " false -> 1\nsigns -> " + (4095 - signing));
        }
        S.says("10: what is worth LEAST at least, which is 5 of 1 in 2 years", """
            seen 1 2 4 true
            signs -> 31
            forget
            seen 1 2 5 true
            signs -> 3135
            forget
            seen 1 2 4 false
            signs -> 4064
            forget
            seen 1 2 5 false
            signs -> 960
            """);
        S.says("10: LEAST is 9, and 1", """
            weight 1 0
            weight 2 0
            weight 3 0
            weight 4 0
            weight 5 0
            weight 6 0
            weight 7 0
            weight 8 0
            least 1 2 -> 9
            seen 1 2 8 true
            signs -> 2559
            forget
            seen 1 2 9 true
            signs -> 4095
            forget
            least 1 1 -> 1
            seen 1 1 1 true
            signs -> 3075
            """);
        S.says("11: whenever n is m at least, else what is worth 5 at least", """
            seen 8 8 1 true
            signs -> 3075
            forget
            seen 1 1 1 false
            signs -> 1020
            forget
            # LEAST of 7 in 8 years is 3
            seen 7 8 1 true
            signs -> 3
            forget
            seen 7 8 4 true
            signs -> 1055
            forget
            seen 7 8 5 true
            signs -> 3135
            forget
            seen 7 8 4 false
            signs -> 3040
            forget
            # LEAST of 1 in 8 years is 8
            seen 1 8 5 true
            signs -> 2111
            """);
        for (int m = 1; m <= 8; m++) {
            S.says("nobody signs, if n is 0", "seen 0 " + m + " 9 false -> 1\nsigns -> 4095\nseen 0 " + m + " 1 false -> 2\nsigns -> 4095\nseen 0 " + m
                + " 9 true -> 3\nsigns -> 0");
        }
        S.says("all SIGHTS: the first and the eighth", """
            seen 0 1 1 true
            seen 0 1 1 false
            seen 0 1 1 false
            seen 0 1 1 false
            seen 0 1 1 false
            seen 0 1 1 false
            seen 0 1 1 false
            seen 0 1 1 false
            signs -> 0
            forget
            seen 0 1 1 false
            seen 0 1 1 false
            seen 0 1 1 false
            seen 0 1 1 false
            seen 0 1 1 false
            seen 0 1 1 false
            seen 0 1 1 false
            signs -> 4095
            seen 9 8 1 false
            signs -> 1020
            """);
        S.says("the same SIGHT both ways: no habit", """
            seen 5 5 5 true
            seen 5 5 5 false
            signs -> 0
            """);
    }

    private static void p28Watch() {
        S.limits("the offer (what = 0), how many (1)", "watch ?", 0, 1, "OUTSIDE");
        S.says("of all twelve: halves", """
            watch 0 -> 113
            watch 1 -> 6
            """);
        S.says("NONE: no habit fits", """
            seen 0 1 1 true
            signs -> 0
            watch 0 -> NONE
            watch 1 -> NONE
            watch 2 -> OUTSIDE
            watch -1 -> OUTSIDE
            """);
        S.says("one habit is left: the least offer of all", """
            seen 1 8 8 false
            signs -> 512
            watch 0 -> 11
            watch 1 -> 1
            """);
        S.says("two that no offer can part: both stay, the least offer of all", """
            seen 1 2 1 true
            signs -> 3
            watch 0 -> 11
            watch 1 -> 2
            """);
        S.says("two that one worth parts: one stays", """
            seen 1 8 6 true
            seen 1 8 5 false
            signs -> 64
            forget
            seen 1 8 7 true
            seen 1 8 5 false
            signs -> 192
            watch 0 -> 116
            watch 1 -> 1
            """);
        // 4 with nine tenths, else 6: habits 10 and 11 part nowhere but where LEAST is 6, with one sheet in eight years
        S.says("any such: the most years, by the WEIGHTS as they are", """
            weight 4 9
            weight 1 0
            weight 2 0
            weight 3 0
            weight 5 0
            weight 7 0
            weight 8 0
            weight 9 0
            seen 1 2 4 false
            seen 1 2 5 true
            seen 1 1 1 true
            watch 0 -> 185
            watch 1 -> 1
            signs -> 3072
            weight 9 9 -> 0
            # 4, 6 and 9 now: waiting is worth more than 5 in a year, so habit 10 did not do so
            signs -> 2048
            watch 0 -> 11
            """);
        S.says("8 SIGHTS: yet one to watch", """
            seen 1 8 7 true
            seen 1 8 5 false
            seen 1 8 7 true
            seen 1 8 5 false
            seen 1 8 7 true
            seen 1 8 5 false
            seen 1 8 7 true
            seen 1 8 5 false -> 8
            watch 0 -> 116
            watch 1 -> 1
            """);
    }

    private static void p29Book() {
        S.limits("a seed (0 to 9999)", "book ? 50 0", 0, 9999, "OUTSIDE");
        S.limits("m years (1 to 99)", "book 5 ? 0", 1, 99, "OUTSIDE");
        S.limits("WORTH (what = 0), FORGED (1), without (2)", "book 5 50 ?", 0, 2, "OUTSIDE");
        S.says("nobody is there: nothing is signed, nothing forged", """
            book 0 99 0 -> 0
            book 0 99 1 -> 0
            book 0 99 2 -> 0
            """);
        S.says("all have none: each act is forged, one in each year", sixWith(0) + """
            book 0 1 1 -> 1
            book 0 99 1 -> 99
            book 9999 99 1 -> 99
            book 0 99 0 -> 495
            book 9999 99 0 -> 506
            book 0 99 2 -> 6
            """);
        S.says("all have enough: none is forged, and as much is had", sixWith(400) + """
            book 0 99 1 -> 0
            book 9999 99 1 -> 0
            book 0 99 0 -> 495
            book 9999 99 0 -> 506
            book 0 99 2 -> 0
            """);
        S.says("his last SHEET: it can be; then he forges", """
            # 74: C and 4; 5624: C and 2; 28652: C and 6
            person 2 1 0
            book 0 1 0 -> 4
            book 0 1 1 -> 0
            book 0 1 2 -> 1
            book 0 2 0 -> 6
            book 0 2 1 -> 1
            book 0 3 1 -> 2
            person 2 2 0
            book 0 1 2 -> 0
            book 0 2 1 -> 0
            book 0 2 2 -> 1
            book 0 3 1 -> 1
            """);
        S.says("who is not there neither signs nor forges", """
            person 0 5 0
            book 0 3 0 -> 0
            book 0 3 1 -> 0
            book 0 3 2 -> 0
            person 2 0 0
            book 0 3 0 -> 12
            book 0 3 1 -> 3
            book 0 3 2 -> 1
            """);
        S.says("left over by 65537: the last seed ahead of it, the first behind it, the last of all", sixWith(1) + """
            # 872: 65474, C and 5; 873: 65549, so 12, A and 3; 9999: 29092, E and 7
            book 872 1 0 -> 5
            book 873 1 0 -> 3
            book 9999 1 0 -> 7
            die 2 -> 5
            book 872 1 0 -> 0
            die 0 -> 4
            book 873 1 0 -> 0
            die 4 -> 3
            book 9999 1 0 -> 0
            """);
        S.says("worth 1 and x by 6 (cut) left over by 9: 1 at least, 9 at most", sixWith(1) + """
            # 7: 599, F, 99 by 9 leaves 0; 4: 374, C, 62 by 9 leaves 8
            book 7 1 0 -> 1
            book 4 1 0 -> 9
            """);
        S.says("the year ends, if it can: in YEAR 99 all else goes on", sixWith(0) + """
            live . x 60 -> 60
            book 0 99 0 -> 495
            live . x 39 -> 39
            told 2 -> 99
            book 0 99 0 -> 495
            book 0 99 1 -> 99
            book 0 99 2 -> 6
            told 2 -> 99
            """);
        S.says("from all as it is: WORTH is added to, FORGED is in it alone, the PAD is not told", """
            person 2 2 0
            live C9C!8 -> 2
            pad C1
            book 0 1 0 -> 21
            book 0 1 1 -> 0
            book 0 2 1 -> 1
            """);
        S.says("nothing is DONE in fact", """
            person 2 1 0
            book 0 99 0 -> fine
            state 2 0 -> 1
            state 2 1 -> 0
            state 2 2 -> 0
            told 2 -> 0
            book 0 1 1 -> 0
            """);
    }

    private static String sixWith(int sheets) {
        StringBuilder rows = new StringBuilder();
        for (int p = 0; p <= 5; p++) {
            rows.append("person ").append(p).append(' ').append(sheets).append(" 0\n");
        }
        return rows.toString();
    }

    private static void p30Image() {
        S.limits("an IMAGE (0, 1)", "image ?", 0, 1, "OUTSIDE");
        S.says("the one is not the other", """
            image 0 -> 1
            restore 1 -> STATE
            person 0 5 0
            image 1 -> 1
            restore 0 -> 1
            told 1 -> 0
            restore 1 -> 1
            told 1 -> 1
            """);
        S.says("kept anew: what was kept ahead is gone", """
            person 0 5 0
            image 0 -> 1
            person 0 6 0
            image 0 -> 1
            person 0 7 0
            restore 0 -> 1
            state 0 0 -> 6
            """);
        S.says("all but the PAD is kept", """
            person 0 5 0
            pad A1
            image 0 -> 1
            told 0 -> 2
            wipe -> 2
            restore 0 -> 1
            told 0 -> 0
            say 'A' -> 1
            restore 0 -> 1
            told 0 -> 1
            fault -> 1
            """);
        S.says("a refused one keeps nothing", """
            person 0 5 0
            image -1 -> OUTSIDE
            image 2 -> OUTSIDE
            restore 0 -> STATE
            restore 1 -> STATE
            """);
    }

    private static void p31Restore() {
        S.limits("an IMAGE (0, 1) that was kept", "restore ?", 0, 1, "OUTSIDE");
        S.says("STATE: it was not", """
            restore 0 -> STATE
            restore 1 -> STATE
            image 1 -> 1
            restore 0 -> STATE
            restore 1 -> 1
            """);
        S.says("as it was: people, SHEETS, TAILS, WORTH, FORGED, DEBTS, the YEAR", """
            person 0 50 3
            person 1 50 4
            live A=9BA7B!5. -> 4
            image 0 -> 1
            die 1
            person 0 1 9
            person 5 1 1
            live F9F!9F>1AA!9. -> NO
            live F9F!9A!9.A>1F -> 5
            restore 0 -> 1
            told 1 -> 3
            told 2 -> 1
            told 20 -> 3
            told 21 -> 4
            state 0 0 -> 40
            state 0 1 -> 7
            state 0 2 -> 0
            state 1 0 -> 59
            state 1 1 -> 5
            state 1 2 -> 1
            owes 1 0 -> 9
            owes 0 1 -> 0
            state 5 0 -> UNKNOWN
            person 5 1 1 -> 3
            state 5 1 -> 0
            state 5 2 -> 0
            """);
        S.says("as it was: WEIGHTS and what goes by them, SIGHTS", """
            weight 9 0
            seen 1 2 4 false
            image 1 -> 1
            least 1 2 -> 5
            best 1 1 -> 9/2
            signs -> 4064
            weight 9 2
            seen 1 2 5 false
            seen 1 2 5 true
            least 1 2 -> 6
            best 1 1 -> 27/5
            signs -> 0
            restore 1 -> 1
            told 3 -> 1
            told 19 -> 0
            least 1 2 -> 5
            best 1 1 -> 9/2
            signs -> 4064
            """);
        S.says("as it was when all was new, and 8 SIGHTS when they were full", """
            image 0 -> 1
            seen 0 1 1 false
            seen 0 1 1 false
            seen 0 1 1 false
            seen 0 1 1 false
            seen 0 1 1 false
            seen 0 1 1 false
            seen 0 1 1 false
            seen 9 8 1 false -> 8
            person 0 400 9
            live . x 60
            live . x 39
            image 1 -> 1
            restore 0 -> 1
            told 1 -> 0
            told 2 -> 0
            told 3 -> 0
            signs -> 4095
            restore 1 -> 1
            told 1 -> 1
            told 2 -> 99
            told 3 -> 8
            signs -> 1020
            seen 0 1 1 false -> FULL
            """);
        for (int place = 0; place < 8; place++) {
            StringBuilder rows = new StringBuilder();
            for (int i = 0; i < 8; i++) {
                rows.append(i == place ? "seen 1 2 4 true\n" : "seen 0 1 1 false\n");
            }
            rows.append("image 0 -> 1\nforget -> 8\n");
            for (int i = 0; i < 8; i++) {
                rows.append("seen 9 8 9 false\n");
            }
            S.says("as it was: each of 8 SIGHTS", rows + "signs -> 0\nrestore 0 -> 1\nsigns -> 31\ntold 3 -> 8");
        }
        S.says("again and again: what comes behind does not change what was kept", """
            person 0 5 0
            image 0 -> 1
            live A1A!1. -> 3
            restore 0 -> 1
            state 0 0 -> 5
            live A1A!1. -> 3
            restore 0 -> 1
            state 0 0 -> 5
            state 0 1 -> 0
            state 0 2 -> 0
            told 2 -> 0
            """);
    }

    private static void p32Told() {
        StringBuilder rows = new StringBuilder(Sentences.FULL_LIFE);
        String[] due = {"12", "23", "3", "3", "OUTSIDE", "OUTSIDE", "OUTSIDE", "OUTSIDE", "OUTSIDE", "OUTSIDE", "OUTSIDE",
            "3", "1", "7", "1", "4", "1", "1", "1", "0", "3", "7", "5", "OUTSIDE", "9", "OUTSIDE", "OUTSIDE", "OUTSIDE"};
        for (int what = 0; what < due.length; what++) {
            rows.append("told ").append(what).append(" -> ").append(due[what]).append('\n');
        }
        S.says("each that is told, and what is between: 4 to 10, who is not there, 26", rows.toString());
        for (int what : new int[] {-1, -10, 30, 52, 100, Integer.MIN_VALUE, Integer.MAX_VALUE}) {
            S.says("OUTSIDE", Sentences.FULL_LIFE + "told " + what + " -> OUTSIDE");
        }
        S.says("PERSONS (bits): none, the first, the last, all", "told 1 -> 0\nperson 0 0 0\ntold 1 -> 1\nperson 5 0 0\ntold 1 -> 33\n" + sixWith(0) + "told 1 -> 63");
        S.says("20 and a PERSON who is there", """
            told 20 -> OUTSIDE
            told 25 -> OUTSIDE
            person 0 0 9
            person 5 0 0
            told 20 -> 9
            told 25 -> 0
            told 19 -> 1
            told 26 -> OUTSIDE
            die 0
            told 20 -> OUTSIDE
            """);
        S.says("signs and the YEAR: 60 and 99 at most", """
            pad . x 60
            told 0 -> 60
            done -> 60
            live . x 39 -> 39
            told 2 -> 99
            """);
    }
}
