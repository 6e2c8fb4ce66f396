/** Each sentence of the document that names a boundary case, promises 1 to 14: people, lives. */
public final class BoundsLivesTest {
    private static final Sentences S = new Sentences();

    public static void main(String[] args) {
        terms();
        p01NewObject();
        p02Person();
        p03Die();
        p04Weight();
        p05Say();
        p06Wipe();
        p07Fault();
        p07FaultOfEachSign();
        p08Judge();
        p08Reasons();
        p08LeastReason();
        p09Done();
        p09Limits();
        p09WorthAtMost();
        p10State();
        p11Behind();
        p12Acts();
        p13Owes();
        p14Who();
        S.end("BoundsLivesTest");
    }

    private static void terms() {
        S.says("refused calls answer the first that fits: UNKNOWN ahead of OUTSIDE", """
            person 6 401 10 -> UNKNOWN
            person -1 -1 -1 -> UNKNOWN
            state 0 3 -> UNKNOWN
            behind 0 3 -> UNKNOWN
            """);
        S.says("refused calls answer the first that fits: UNKNOWN, OUTSIDE, NO for a FAULT", """
            person 0 1 1
            pad A
            behind 1 3 -> UNKNOWN
            behind 1 0 -> UNKNOWN
            behind 0 3 -> OUTSIDE
            behind 0 2 -> NO
            judge 2 -> OUTSIDE
            judge 1 -> NO
            acts 2 -> OUTSIDE
            acts 1 -> NO
            """);
        S.says("refused calls answer the first that fits: UNKNOWN, OUTSIDE, NO for an ACT that can not be", """
            person 0 1 1
            pad B1
            behind 1 3 -> UNKNOWN
            behind 0 -1 -> OUTSIDE
            behind 0 0 -> NO
            acts -1 -> OUTSIDE
            acts 0 -> NO
            """);
        S.says("refused calls answer the first that fits: OUTSIDE ahead of STATE", """
            weight 2 0
            weight 3 0
            weight 4 0
            weight 5 0
            weight 6 0
            weight 7 0
            weight 8 0
            weight 9 0
            weight 0 0 -> OUTSIDE
            weight 10 0 -> OUTSIDE
            weight 1 -1 -> OUTSIDE
            weight 1 0 -> STATE
            restore 2 -> OUTSIDE
            restore 1 -> STATE
            """);
        S.says("refused calls answer the first that fits: OUTSIDE ahead of FULL", """
            pad . x 60
            say 32 -> OUTSIDE
            say 127 -> OUTSIDE
            say 33 -> FULL
            """);
        S.says("at most 512 calls: the 512th is still as told", """
            person 0 400 9
            live A9A9A9A9A9A9A9A9A9A9A9A9A9A9A9A9A9A9A9A9A9A9A9A9A9A9A9A9A9A9 -> 30
            live A9A9A9A9A9A9A9A9A9A9A9A9A9A9A9A9A9A9A9A9A9A9A9A9A9A9A9A9A9A9 -> 30
            live A9A9A9A9A9A9A9A9A9A9A9A9A9A9A9A9A9A9A9A9A9A9A9A9A9A9A9A9A9A9 -> 30
            live A9A9A9A9A9A9A9A9A9A9A9A9A9A9A9A9A9A9A9A9A9A9A9A9A9A9A9A9A9A9 -> 30
            live A9A9A9A9A9A9A9A9A9A9A9A9A9A9A9A9A9A9A9A9A9A9A9A9A9A9A9A9A9A9 -> 30
            live A9A9A9A9A9A9A9A9A9A9A9A9A9A9A9A9A9A9A9A9A9A9A9A9A9A9A9A9A9A9 -> 30
            live A9A9A9A9A9A9A9A9A9A9A9A9A9A9A9A9A9A9A9A9A9A9A9A9A9A9A9A9A9A9 -> 30
            live A9A9A9A9A9A9A9A9A9A9A9A9A9A9A9A9A9A9A9A9A9A9A9A9A9A9A9A9A9A9 -> 30
            fault -> NONE
            judge 0 -> NONE
            forget -> 0
            wipe -> 0
            hands -> 0
            who 0 -> 0
            who 1 -> 1
            told 1 -> 1
            told 2 -> 0
            told 20 -> 9
            netted 0 -> 1000
            signs -> 4095
            state 0 2 -> 0
            state 0 0 -> 160
            state 0 1 -> 2160
            """);
    }

    private static void p01NewObject() {
        S.says("nobody is there", """
            told 1 -> 0
            who 0 -> NONE
            who 1 -> 0
            hands -> 0
            match 0 0 -> 0
            match 0 1 -> 1
            match 1 0 -> OUTSIDE
            wrote 0 0 -> OUTSIDE
            book 0 1 0 -> 0
            book 0 99 1 -> 0
            book 9999 99 2 -> 0
            """);
        for (int p = 0; p <= 5; p++) {
            S.says("none of PERSONS 0 to 5 are there at first", """
                state ? 0 -> UNKNOWN
                behind ? 0 -> UNKNOWN
                netted ? -> UNKNOWN
                owes ? 0 -> UNKNOWN
                owes 5 ? -> UNKNOWN
                die ? -> UNKNOWN
                """.replace("?", "" + p) + "told " + (20 + p) + " -> OUTSIDE");
        }
        S.says("of WORTH, FORGED, DEBTS, YEAR, SIGHTS, signs: 0 at first", """
            told 0 -> 0
            told 2 -> 0
            told 3 -> 0
            person 0 7 1 -> 1
            person 1 8 2 -> 2
            state 0 1 -> 0
            state 0 2 -> 0
            owes 0 1 -> 0
            owes 1 0 -> 0
            """);
        S.says("the PAD is empty at first", """
            fault -> NONE
            judge 0 -> NONE
            judge 1 -> NONE
            acts 0 -> 0
            acts 1 -> NONE
            wipe -> 0
            done -> 0
            """);
        for (int k = 1; k <= 9; k++) {
            S.says("WEIGHT: 1 each at first", "told " + (10 + k) + " -> 1");
        }
        S.says("no SIGHTS and no IMAGES at first", """
            forget -> 0
            signs -> 4095
            restore 0 -> STATE
            restore 1 -> STATE
            """);
    }

    private static void p02Person() {
        S.limits("PERSONS 0 to 5", "person ? 0 0", 0, 5, "UNKNOWN");
        S.limits("SHEETS (0 to 400), of a new one", "person 3 ? 0", 0, 400, "OUTSIDE");
        S.limits("a TAIL (0 to 9), of a new one", "person 5 7 ?", 0, 9, "OUTSIDE");
        S.limits("SHEETS (0 to 400), anew", "person 0 ? 0", 0, 400, "OUTSIDE");
        S.limits("a TAIL (0 to 9), anew", "person 1 7 ?", 0, 9, "OUTSIDE");
        S.says("how many are: from the first to all six, and no more", """
            person 5 0 0 -> 1
            person 4 0 0 -> 2
            person 3 0 0 -> 3
            person 2 0 0 -> 4
            person 1 0 0 -> 5
            person 0 0 0 -> 6
            person 0 0 0 -> 6
            person 6 0 0 -> UNKNOWN
            told 1 -> 63
            """);
        S.says("SHEETS and TAIL at both ends", """
            person 0 0 0 -> 1
            person 5 400 9 -> 2
            state 0 0 -> 0
            state 5 0 -> 400
            told 20 -> 0
            told 25 -> 9
            told 1 -> 33
            """);
        S.says("his SHEETS, TAIL anew: and nothing else", """
            person 0 20 1
            person 1 20 2
            live A7A!2A=3BB=1A -> 4
            person 0 400 9 -> 2
            state 0 0 -> 400
            told 20 -> 9
            state 0 1 -> 9
            state 0 2 -> 1
            owes 1 0 -> 3
            owes 0 1 -> 1
            state 1 0 -> 22
            person 0 0 0 -> 2
            state 0 0 -> 0
            state 0 1 -> 9
            """);
        S.says("a refused one is not there", """
            person 0 401 0 -> OUTSIDE
            person 0 400 10 -> OUTSIDE
            person 0 -1 0 -> OUTSIDE
            person 0 0 -1 -> OUTSIDE
            told 1 -> 0
            state 0 0 -> UNKNOWN
            """);
    }

    private static void p03Die() {
        for (int p : new int[] {-1, 6, 32, 33, Integer.MIN_VALUE, Integer.MAX_VALUE}) {
            S.says("UNKNOWN: he was not, for there is no such", Sentences.FULL_LIFE + "die " + p + " -> UNKNOWN");
        }
        S.says("UNKNOWN: he was not, or not any more", Sentences.FULL_LIFE + """
            die 3 -> UNKNOWN
            die 5 -> UNKNOWN
            die 0 -> 3
            die 0 -> UNKNOWN
            """);
        S.says("how many are there: down to nobody", """
            person 0 1 1
            person 1 1 1
            person 2 1 1
            person 3 1 1
            person 4 1 1
            person 5 1 1
            die 5 -> 5
            die 0 -> 4
            die 3 -> 3
            die 1 -> 2
            die 4 -> 1
            die 2 -> 0
            die 2 -> UNKNOWN
            told 1 -> 0
            who 0 -> NONE
            """);
        S.says("nothing is left of him", """
            person 0 20 4
            live A9A!8 -> 2
            die 0 -> 0
            state 0 1 -> UNKNOWN
            told 20 -> OUTSIDE
            book 0 1 0 -> 0
            person 0 5 6 -> 1
            state 0 0 -> 5
            state 0 1 -> 0
            state 0 2 -> 0
            told 20 -> 6
            who 1 -> 1
            """);
        S.says("DEBTS are quit, his and those to him, and no others", """
            person 0 50 0
            person 1 50 0
            person 2 50 0
            live A=1BB=2AA=3CC=4AB=5CC=6B -> 6
            die 0 -> 2
            owes 0 1 -> UNKNOWN
            owes 1 0 -> UNKNOWN
            owes 2 1 -> 5
            owes 1 2 -> 6
            netted 1 -> 999
            netted 2 -> 1001
            hands -> 1
            person 0 1 1 -> 3
            owes 0 1 -> 0
            owes 1 0 -> 0
            owes 0 2 -> 0
            owes 2 0 -> 0
            netted 0 -> 1000
            """);
        S.says("a life on the PAD can not be without him", """
            person 0 5 0
            person 1 5 0
            pad A1B1
            judge 0 -> NONE
            die 1 -> 1
            judge 0 -> 1
            judge 1 -> 1
            done -> NO
            """);
    }

    private static void p04Weight() {
        S.limits("WEIGHT of a worth (1 to 9)", "weight ? 5", 1, 9, "OUTSIDE");
        S.limits("WEIGHT k (0 to 9)", "weight 4 ?", 0, 9, "OUTSIDE");
        S.says("which it was, at both ends", """
            weight 1 9 -> 1
            weight 1 0 -> 9
            weight 1 0 -> 0
            weight 9 0 -> 1
            weight 9 9 -> 0
            weight 9 9 -> 9
            told 11 -> 0
            told 19 -> 9
            """);
        for (int k = 1; k <= 9; k++) {
            StringBuilder rows = new StringBuilder();
            for (int other = 1; other <= 9; other++) {
                rows.append(other == k ? "" : "weight " + other + " 0 -> 1\n");
            }
            int another = k % 9 + 1;
            S.says("STATE: none would be above 0", rows + "weight " + k + " 0 -> STATE\ntold " + (10 + k) + " -> 1\n"
                + "best 1 1 -> " + k + "/1\nweight " + another + " 0 -> 0\nweight " + k + " 9 -> 1\nweight " + k + " 0 -> STATE\n"
                + "weight " + another + " 1 -> 0\nweight " + k + " 0 -> 9\nweight " + another + " 0 -> STATE");
        }
    }

    private static void p05Say() {
        S.limits("codes 33 to 126", "say ?", 33, 126, "OUTSIDE");
        for (int code = 0; code <= 255; code++) {
            S.says("codes 33 to 126, each", "say " + code + " -> " + (code < 33 || code > 126 ? "OUTSIDE" : "1"));
        }
        S.says("60 SIGNS at most", """
            pad . x 58
            say '.' -> 59
            say 'A' -> 60
            say '1' -> FULL
            say 33 -> FULL
            say 126 -> FULL
            told 0 -> 60
            fault -> 60
            """);
        S.says("FULL no more, when signs went", """
            pad . x 60
            say '.' -> FULL
            wipe -> 60
            say '.' -> 1
            live . x 60 -> 60
            say '.' -> 1
            """);
        S.says("a sign that can not stand there is a sign more, too", """
            say '~' -> 1
            say '!' -> 2
            told 0 -> 2
            """);
    }

    private static void p06Wipe() {
        S.says("how many there were: none, one, all", """
            wipe -> 0
            say 'A' -> 1
            wipe -> 1
            wipe -> 0
            pad . x 60
            wipe -> 60
            wipe -> 0
            told 0 -> 0
            """);
        S.says("signs go: those that were there stand nowhere any more", """
            person 0 5 0
            pad A1A2
            wipe -> 4
            fault -> NONE
            acts 0 -> 0
            say 'A' -> 1
            fault -> 1
            say '*' -> 2
            acts 0 -> 0
            behind 0 1 -> 0
            """);
    }

    private static void p07Fault() {
        S.says("NONE: of no signs, and of a full PAD", """
            fault -> NONE
            pad . x 60
            fault -> NONE
            pad A1 x 30
            fault -> NONE
            pad A>1B x 15
            fault -> NONE
            """);
        S.says("the place (from 0 on): the first, the last of a full PAD", """
            pad G
            fault -> 0
            pad A0
            fault -> 1
            pad . x 59
            say 'G' -> 60
            fault -> 59
            pad A>1 x 20
            fault -> 4
            """);
        S.says("the number of signs, if more must come: also when there is no room for more", """
            pad A
            fault -> 1
            pad A>1
            fault -> 3
            pad . x 59
            say 'F' -> 60
            fault -> 60
            pad . x 57
            say 'A' -> 58
            say '=' -> 59
            say '9' -> 60
            fault -> 60
            """);
        S.says("the first of several", """
            pad A0A0
            fault -> 1
            pad A1GG
            fault -> 2
            pad GA
            fault -> 0
            """);
        S.says("who is not there, and who gives to himself, is no FAULT", """
            pad F1
            fault -> NONE
            pad A>9A
            fault -> NONE
            pad A<9A
            fault -> NONE
            """);
    }

    /** Behind each beginning of an ACT each of the 94 signs: which may stand there is written out from the document. */
    private static void p07FaultOfEachSign() {
        String letters = "ABCDEF";
        String digits = "123456789";
        eachSign("", ".", letters);
        eachSign("A1", ".", letters);
        eachSign("B*.", ".", letters);
        eachSign("A>1B", ".", letters);
        for (char c : letters.toCharArray()) {
            eachSign("" + c, digits + "*", "!>=<");
        }
        eachSign("A!", digits, "");
        for (String deed : new String[] {">", "=", "<"}) {
            eachSign("A" + deed, "", digits);
            eachSign("A" + deed + "9", letters, "");
            eachSign("F" + deed + "1", letters, "");
        }
    }

    private static void eachSign(String ahead, String ending, String goingOn) {
        for (char c = 33; c <= 126; c++) {
            String want = ending.indexOf(c) >= 0 ? "NONE" : "" + (ahead.length() + (goingOn.indexOf(c) >= 0 ? 1 : 0));
            S.says("the first sign that can not stand there", "pad " + ahead + c + "\nfault -> " + want);
        }
    }

    private static void p08Judge() {
        S.limits("the ACT (what = 0), why (1)", "judge ?", 0, 1, "OUTSIDE");
        S.says("NO: there is a FAULT, of either kind", Sentences.FULL_LIFE + """
            pad A1A
            judge 0 -> NO
            judge 1 -> NO
            pad A1G
            judge 0 -> NO
            pad D1G
            judge 1 -> NO
            """);
        S.says("NONE: of no ACTS, and where all can be", """
            person 0 1 0
            judge 0 -> NONE
            judge 1 -> NONE
            pad A1
            judge 0 -> NONE
            judge 1 -> NONE
            """);
        S.says("the first ACT (from 0 on)", """
            person 0 1 0
            pad B1A1
            judge 0 -> 0
            judge 1 -> 1
            pad A1A1B1
            judge 0 -> 1
            judge 1 -> 3
            pad A1.A!1A>1A
            judge 0 -> 3
            judge 1 -> 2
            """);
        S.says("the last of 60 ACTS", """
            live . x 40 -> 40
            pad . x 60
            judge 0 -> 59
            judge 1 -> 4
            told 2 -> 40
            """);
        S.says("judged again and again, nothing is DONE", """
            person 0 1 0
            pad A9.
            judge 0 -> NONE
            judge 0 -> NONE
            state 0 0 -> 1
            state 0 1 -> 0
            told 2 -> 0
            told 0 -> 3
            """);
    }

    private static void p08Reasons() {
        for (String act : new String[] {"B1", "B!1", "B*", "B>1A", "B=1A", "B<1A", "A>1B", "A=1B", "A<1B"}) {
            S.says("1 a PERSON is not there", "person 0 9 0\npad " + act + "\njudge 0 -> 0\njudge 1 -> 1\nperson 1 9 0\njudge 1 -> NONE");
        }
        for (String act : new String[] {"A>1A", "A=1A", "A<1A"}) {
            S.says("2 both are one", "person 0 9 0\npad " + act + "\njudge 0 -> 0\njudge 1 -> 2");
        }
        for (String act : new String[] {"A1", "A9", "A*"}) {
            S.says("3 too few SHEETS: to sign, a blot", "person 0 0 0\npad " + act + "\njudge 1 -> 3\nperson 0 1 0\njudge 1 -> NONE\nbehind 0 0 -> 0");
        }
        for (int number = 1; number <= 9; number++) {
            for (String deed : new String[] {">", "="}) {
                S.says("3 too few SHEETS: his", "person 0 " + (number - 1) + " 0\nperson 1 400 0\npad A" + deed + number + "B\njudge 1 -> 3\n"
                    + "person 0 " + number + " 0\njudge 1 -> NONE\nbehind 0 0 -> 0\nperson 1 0 0\nbehind 1 0 -> " + number);
            }
            S.says("3 too few SHEETS: to steal, the other one's", "person 0 400 0\nperson 1 " + (number - 1) + " 0\npad A<" + number
                + "B\njudge 1 -> 3\nperson 1 " + number + " 0\njudge 1 -> NONE\nbehind 1 0 -> 0\nperson 0 0 0\nbehind 0 0 -> " + number);
        }
        S.says("no SHEETS are too few for nothing but these: to forge, to be given, to steal, the year", """
            person 0 0 0
            person 1 9 0
            pad A!9.B>1AA<8B
            judge 0 -> NONE
            """);
        S.says("4 it is YEAR 99 (.)", """
            live . x 60 -> 60
            live . x 38 -> 38
            told 2 -> 98
            pad .
            judge 0 -> NONE
            pad ..
            judge 0 -> 1
            judge 1 -> 4
            done -> NO
            live . -> 1
            told 2 -> 99
            pad .
            judge 0 -> 0
            judge 1 -> 4
            done -> NO
            told 2 -> 99
            person 0 1 0
            live A1 -> 1
            """);
        S.says("5 DEBT would be above 99 (to lend)", """
            person 0 400 0
            person 1 0 0
            live A=9BA=9BA=9BA=9BA=9BA=9BA=9BA=9BA=9BA=9BA=8B -> 11
            owes 1 0 -> 98
            pad A=1B
            judge 0 -> NONE
            pad A=2B
            judge 1 -> 5
            pad A=1BA=1B
            judge 0 -> 1
            judge 1 -> 5
            live A=1B -> 1
            owes 1 0 -> 99
            live A=1B -> NO
            judge 1 -> 5
            owes 1 0 -> 99
            """);
        S.says("5 to lend alone, and to that one alone", """
            person 0 400 0
            person 1 0 0
            person 2 0 0
            live A=9B x 11 -> 11
            owes 1 0 -> 99
            live A>9B -> 1
            live B<9A -> 1
            live B=9A -> 1
            live A=9C -> 1
            live C=9B -> 1
            owes 1 0 -> 99
            owes 0 1 -> 9
            """);
        S.says("SHEETS are told as the ACTS ahead have left them", """
            person 0 1 0
            person 1 0 0
            pad A>1BB1B1
            judge 0 -> 2
            judge 1 -> 3
            pad A1B>1AA1
            judge 0 -> 1
            judge 1 -> 3
            """);
    }

    private static void p08LeastReason() {
        for (String act : new String[] {"D>1D", "D=9D", "D<9D"}) {
            S.says("for the least: 1 ahead of 2", "person 0 0 0\npad " + act + "\njudge 1 -> 1");
        }
        for (String act : new String[] {"A>9D", "A=9D", "D<9A", "D>9A", "D=1A", "D1", "D*"}) {
            S.says("for the least: 1 ahead of 3", "person 0 0 0\npad " + act + "\njudge 1 -> 1");
        }
        for (String act : new String[] {"A>1A", "A=9A", "A<9A"}) {
            S.says("for the least: 2 ahead of 3", "person 0 0 0\npad " + act + "\njudge 1 -> 2");
        }
        S.says("for the least: 3 ahead of 5", """
            person 0 99 0
            person 1 0 0
            live A=9B x 11 -> 11
            state 0 0 -> 0
            pad A=1B
            judge 1 -> 3
            person 0 1 0
            judge 1 -> 5
            """);
        S.says("for the least: 1 ahead of 5, for DEBTS are quit with him", """
            person 0 99 0
            person 1 0 0
            live A=9B x 11 -> 11
            die 1 -> 1
            pad A=1B
            judge 1 -> 1
            person 1 0 0
            person 0 1 0
            judge 1 -> NONE
            """);
    }

    private static void p09Done() {
        S.says("of no ACTS: 0", """
            done -> 0
            done -> 0
            """);
        S.says("ACTS: as many as there are, and the PAD is empty then", """
            live . -> 1
            told 0 -> 0
            done -> 0
            told 2 -> 1
            live . x 60 -> 60
            told 0 -> 0
            told 2 -> 61
            """);
        S.says("NO: there is a FAULT, though all ACTS ahead of it can be", """
            person 0 5 0
            live A1A1A -> NO
            told 0 -> 5
            state 0 0 -> 5
            say '1' -> 6
            done -> 3
            state 0 0 -> 2
            live A1G -> NO
            told 0 -> 3
            state 0 0 -> 2
            """);
        S.says("NO: an ACT that can not be, at the end, at the beginning", """
            person 0 5 0
            live A1A!2.A*B1 -> NO
            told 0 -> 10
            told 2 -> 0
            state 0 0 -> 5
            state 0 1 -> 0
            state 0 2 -> 0
            live B1A1 -> NO
            told 0 -> 4
            """);
    }

    private static void p09Limits() {
        S.says("400 SHEETS at most, what is above is lost: given", """
            person 0 100 0
            person 1 398 0
            live A>2B -> 1
            state 1 0 -> 400
            live A>1B -> 1
            state 1 0 -> 400
            state 0 0 -> 97
            person 1 399 0
            live A>9B -> 1
            state 1 0 -> 400
            state 0 0 -> 88
            live B1A>1B -> 2
            state 1 0 -> 400
            """);
        S.says("400 SHEETS at most, what is above is lost: lent, and yet owed", """
            person 0 100 0
            person 1 400 0
            live A=9B -> 1
            state 0 0 -> 91
            state 1 0 -> 400
            owes 1 0 -> 9
            """);
        S.says("400 SHEETS at most, what is above is lost: stolen", """
            person 0 100 0
            person 1 392 0
            live B<8A -> 1
            state 1 0 -> 400
            live B<9A -> 1
            state 1 0 -> 400
            state 0 0 -> 83
            """);
        S.says("what is lost is lost: it does not come back", """
            person 0 100 0
            person 1 400 0
            live A>9BB1 -> 2
            state 1 0 -> 399
            """);
        S.says("a digit 1 to 9: of signed acts, both ends", """
            person 0 10 0
            live A1 -> 1
            state 0 1 -> 1
            live A9 -> 1
            state 0 1 -> 10
            state 0 0 -> 8
            """);
        S.says("a digit 1 to 9: of forged acts, both ends", """
            person 0 0 0
            live A!1 -> 1
            state 0 1 -> 1
            state 0 2 -> 1
            live A!9 -> 1
            state 0 1 -> 10
            state 0 2 -> 2
            state 0 0 -> 0
            """);
        S.says("a blot: a SHEET less and nothing more", """
            person 0 1 0
            live A* -> 1
            state 0 0 -> 0
            state 0 1 -> 0
            state 0 2 -> 0
            live A* -> NO
            """);
        S.says("he gives, or steals: nobody owes", """
            person 0 9 0
            person 1 9 0
            live A>9BA<9B -> 2
            owes 0 1 -> 0
            owes 1 0 -> 0
            state 0 0 -> 9
            """);
    }

    /**
     * 512 calls reach a WORTH of some 2200, and what comes behind them is free: so no run that is promised comes near 9999.
     * The class keeps to the limit all the same, and this is the only test that goes on for so long.
     */
    private static void p09WorthAtMost() {
        Due due = new Due();
        SignedSheets x = new SignedSheets();
        for (int round = 0; round < 37; round++) {
            x.person(0, 30, 0);
            sayAll(x, "A9".repeat(30));
            due.is("WORTH, 9999 at most: acts", x.done(), 30);
        }
        sayAll(x, "A!8");
        due.is("WORTH, 9999 at most: one below", x.behind(0, 1), 9998);
        x.wipe();
        sayAll(x, "A!9");
        due.is("WORTH, 9999 at most: just so much", x.behind(0, 1), 9999);
        sayAll(x, "A!1");
        due.is("WORTH, 9999 at most: no more, forged", x.behind(0, 1), 9999);
        due.is("WORTH, 9999 at most: it can be", x.done(), 2);
        x.person(0, 1, 0);
        sayAll(x, "A9");
        due.is("WORTH, 9999 at most: no more, signed", x.behind(0, 1), 9999);
        due.is("WORTH, 9999 at most: the sheet is gone", x.behind(0, 0), 0);
        x.person(1, 5, 0);
        sayAll(x, "B9");
        x.done();
        // the seed 875 leads to 162: A, and an act worth 1
        due.is("WORTH, 9999 at most, of each in a book too: of all together it is more", x.book(875, 1, 0), 9999 + 9);
        due.end("BoundsLivesTest, beyond 512 calls");
    }

    private static void sayAll(SignedSheets x, String text) {
        for (char c : text.toCharArray()) {
            x.say(c);
        }
    }

    private static void p10State() {
        S.limits("SHEETS (what = 0), WORTH (1), FORGED (2)", "state 0 ?", 0, 2, "OUTSIDE");
        for (int p : new int[] {-1, 3, 5, 6, 32, Integer.MIN_VALUE, Integer.MAX_VALUE}) {
            S.says("of a PERSON: UNKNOWN", Sentences.FULL_LIFE + "state " + p + " 0 -> UNKNOWN\nstate " + p + " 3 -> UNKNOWN");
        }
        S.says("of each who is there", """
            person 0 1 0
            person 5 400 0
            live F9F!9 -> 2
            state 0 0 -> 1
            state 5 0 -> 399
            state 5 1 -> 18
            state 5 2 -> 1
            """);
    }

    private static void p11Behind() {
        S.limits("BEHIND, likewise: what 0 to 2", "behind 0 ?", 0, 2, "OUTSIDE");
        for (int p : new int[] {-1, 3, 5, 6, 32, Integer.MIN_VALUE, Integer.MAX_VALUE}) {
            S.says("BEHIND: UNKNOWN", Sentences.FULL_LIFE + "behind " + p + " 0 -> UNKNOWN\nbehind " + p + " 3 -> UNKNOWN");
        }
        S.says("NO, as of done(): a FAULT", """
            person 0 9 0
            pad A1A
            behind 0 0 -> NO
            behind 0 1 -> NO
            behind 0 2 -> NO
            """);
        S.says("NO, as of done(): an ACT that can not be, also of another one", """
            person 0 9 0
            person 1 0 0
            pad A1B1
            behind 0 0 -> NO
            behind 0 1 -> NO
            behind 1 2 -> NO
            """);
        S.says("of no ACTS: as it is", """
            person 0 9 0
            live A5A!6 -> 2
            behind 0 0 -> 8
            behind 0 1 -> 11
            behind 0 2 -> 1
            """);
        S.says("400 SHEETS at most BEHIND too, and none at least", """
            person 0 9 0
            person 1 399 0
            pad A>9B
            behind 1 0 -> 400
            behind 0 0 -> 0
            """);
        S.says("not being DONE", """
            person 0 9 0
            pad A5A!6.
            behind 0 0 -> 8
            behind 0 0 -> 8
            state 0 0 -> 9
            state 0 1 -> 0
            told 2 -> 0
            told 0 -> 6
            """);
    }

    private static void p12Acts() {
        S.limits("SIGNED (what = 0), BARE (1)", "acts ?", 0, 1, "OUTSIDE");
        S.says("NO, likewise: a FAULT, an ACT that can not be", """
            person 0 1 0
            pad A1A
            acts 0 -> NO
            acts 1 -> NO
            pad A1A1
            acts 0 -> NO
            acts 1 -> NO
            """);
        S.says("SIGNED by all: none, all of a full PAD", """
            person 0 400 0
            person 1 400 0
            acts 0 -> 0
            pad A!1A*B>1AB=1AA<1B.
            acts 0 -> 0
            pad A1B9 x 15
            acts 0 -> 30
            pad A1
            acts 0 -> 1
            acts 0 -> 1
            """);
        S.says("BARE: NONE, as long as one is left", """
            person 0 2 0
            person 1 9 0
            acts 1 -> NONE
            pad A1
            acts 1 -> NONE
            pad A1A1
            acts 1 -> 1
            pad A>2B
            acts 1 -> 0
            pad B<1A
            acts 1 -> NONE
            pad B<2A
            acts 1 -> 0
            pad .A=1B.A*
            acts 1 -> 3
            """);
        S.says("BARE: who had none ahead does not count", """
            person 0 0 0
            person 1 5 0
            pad A!1.B1
            acts 1 -> NONE
            """);
        S.says("BARE: who got some and lost them counts", """
            person 0 0 0
            person 1 5 0
            pad A!1B>1A.A*
            acts 1 -> 3
            """);
        S.says("BARE: the first of several, also when he has some again in the end", """
            person 0 1 0
            person 1 1 0
            person 2 9 0
            pad .B1A1C>1AC>1B
            acts 1 -> 1
            """);
        S.says("BARE: the last of a full PAD", """
            person 0 30 0
            pad A1 x 30
            acts 1 -> 29
            person 0 31 0
            acts 1 -> NONE
            """);
    }

    private static void p13Owes() {
        S.says("UNKNOWN: the first, the second, both", Sentences.FULL_LIFE + """
            owes 3 0 -> UNKNOWN
            owes 0 3 -> UNKNOWN
            owes 3 5 -> UNKNOWN
            owes -1 0 -> UNKNOWN
            owes 0 -1 -> UNKNOWN
            owes 6 0 -> UNKNOWN
            owes 0 6 -> UNKNOWN
            owes MIN 0 -> UNKNOWN
            owes 0 MIN -> UNKNOWN
            owes MAX 0 -> UNKNOWN
            owes 0 MAX -> UNKNOWN
            owes 32 0 -> UNKNOWN
            """);
        S.says("UNKNOWN: also one", Sentences.FULL_LIFE + """
            owes 0 0 -> UNKNOWN
            owes 3 3 -> UNKNOWN
            owes 5 5 -> UNKNOWN
            """);
        S.says("DEBT: 0, 1, 99", """
            person 0 400 0
            person 5 0 0
            owes 5 0 -> 0
            live A=1F -> 1
            owes 5 0 -> 1
            owes 0 5 -> 0
            live A=9FA=9FA=9FA=9FA=9FA=9FA=9FA=9FA=9FA=9FA=8F -> 11
            owes 5 0 -> 99
            owes 0 5 -> 0
            """);
    }

    private static void p14Who() {
        S.limits("RICHEST (what = 0), HONEST (1)", "who ?", 0, 1, "OUTSIDE");
        S.says("NONE: nobody is there", """
            who 0 -> NONE
            who 1 -> 0
            person 5 0 0 -> 1
            who 0 -> 5
            who 1 -> 32
            die 5 -> 0
            who 0 -> NONE
            who 1 -> 0
            """);
        S.says("of several the least", """
            person 5 9 0
            person 3 9 0
            who 0 -> 3
            person 1 9 0
            who 0 -> 1
            live F2D2 -> 2
            who 0 -> 3
            live F1 -> 1
            who 0 -> 5
            live D1B!3 -> 2
            who 0 -> 1
            """);
        S.says("HONEST: all six, none", """
            person 0 9 0
            person 1 9 0
            person 2 9 0
            person 3 9 0
            person 4 9 0
            person 5 9 0
            who 1 -> 63
            live A!1 -> 1
            who 1 -> 62
            live F!1A!1 -> 2
            who 1 -> 30
            live B!1C!1D!1E!1 -> 4
            who 1 -> 0
            """);
    }
}
