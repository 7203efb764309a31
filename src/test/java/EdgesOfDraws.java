/** The boundaries of draws, their codes, bars and swaps: promises 6 to 10 and 26 to 30. */
final class EdgesOfDraws {
    private static final int MIN = Integer.MIN_VALUE;
    private static final int MAX = Integer.MAX_VALUE;
    private static final long NO = Long.MIN_VALUE;
    /** Lawful are just codes 1 (a and d in group 0) and 2 (b and c in group 0). */
    private static final String TWO = "groups 2;pot a b;pot c d;apart a c;";
    /** 16 of 36 draws are lawful, 24 without either bar. */
    private static final String THREE = "groups 3;pot a b c;pot d e f;apart a d;never e 2;";
    private static final String TWELVE = "groups 4;pot a b c d;pot e f g h;pot i j k l;";
    private static final String NO_DRAW = "groups 2;pot a b;never a 0;never a 1;never b 0;";

    private final Sentences s;

    EdgesOfDraws(Sentences s) {
        this.s = s;
    }

    void all() {
        codes();
        withoutPots();
        lawful();
        without();
        forbids();
        draw();
        judge();
        moves();
        leave();
        leaveOneOrTwo();
        parts();
        mix();
        mixed();
    }

    /** The groups of all teams in the k-th lawful draw. */
    private static String row(BallPots x, int k) {
        StringBuilder row = new StringBuilder();
        for (int team = 0; team < x.count(2); team++) {
            row.append(x.draw(k, team));
        }
        return row.toString();
    }

    private void codes() {
        s.says(Sentences.TERMS, "==== 2. A DRAW gives each TEAM a GROUP, the TEAMS of a POT unlike ones.");
        s.due("draws of two", Tapes.of("groups 2;pot a b;").count(6), 2);
        s.due("draws of three", Tapes.of("groups 3;pot a b c;").count(6), 6);
        s.due("draws of four", Tapes.of("groups 4;pot a b c d;").count(6), 24);
        s.due("draws of twelve", Tapes.of(TWELVE).count(6), 13824);
        s.says(Sentences.TERMS, "Its CODE: POT by POT its RANK (0 .. GROUPS! less 1) among all rows of unlike"
                + " GROUPS of its TEAMS by numbers, those with lesser GROUPS ahead;");
        BallPots four = Tapes.of("groups 4;pot a b c d;");
        String[] rows = {"0123", "0132", "0213", "0231", "0312", "0321", "1023", "1032", "1203", "1230", "1302", "1320",
            "2013", "2031", "2103", "2130", "2301", "2310", "3012", "3021", "3102", "3120", "3201", "3210"};
        for (int rank = 0; rank < rows.length; rank++) {
            s.due("rank " + rank + " of four", row(four, rank), rows[rank]);
        }
        s.due("rank 24 of four", four.judge(24), -1);
        BallPots two = Tapes.of("groups 2;pot a b;");
        s.due("ranks of two", row(two, 0) + row(two, 1), "0110");
        s.due("rank 2 of two", two.judge(2), -1);
        s.says(Sentences.TERMS, "CODE times GROUPS! and the next RANK, and so on.");
        BallPots three = Tapes.of("groups 3;pot a b c;pot d e f;");
        s.due("code 0", row(three, 0), "012012");
        s.due("code 5", row(three, 5), "012210");
        s.due("code 6", row(three, 6), "021012");
        s.due("code 35", row(three, 35), "210210");
        s.due("code 36", row(three, 36), "-1-1-1-1-1-1");
        BallPots twelve = Tapes.of(TWELVE);
        s.due("code 23", row(twelve, 23), "012301233210");
        s.due("code 24", row(twelve, 24), "012301320123");
        s.due("code 576", row(twelve, 576), "013201230123");
        s.due("code 13823", row(twelve, 13823), "321032103210");
    }

    private void withoutPots() {
        s.says(Sentences.TERMS, "LAWFUL: all BARS hold. Without POTS there is one DRAW, of CODE 0.");
        for (BallPots x : new BallPots[] {new BallPots(), Tapes.of("groups 2;"), Tapes.of("groups 4;")}) {
            s.due("draws in all", x.count(6), 1);
            s.due("lawful()", x.lawful(), 1);
            s.due("judge(0)", x.judge(0), 1);
            s.due("judge(1)", x.judge(1), -1);
            s.due("leads(0)", x.leads(0), 0);
            s.due("parts(0)", x.parts(0), 1);
        }
        BallPots two = Tapes.of("groups 2;pot a b;pot c d;apart a c;apart a d;");
        s.due("one bar holds", two.judge(0) + two.judge(1), 0);
        s.due("no bars", Tapes.of("groups 2;pot a b;pot c d;").judge(0), 1);
    }

    private void lawful() {
        s.says(6, "How many DRAWS are LAWFUL.");
        s.due("none", Tapes.of(NO_DRAW).lawful(), 0);
        s.due("one", Tapes.of("groups 2;pot a b;never a 0;").lawful(), 1);
        s.due("some", Tapes.of(THREE).lawful(), 16);
        s.due("all", Tapes.of(TWELVE).lawful(), 13824);
        s.due("no pots", Tapes.of("groups 3;").lawful(), 1);
        s.due("without a text", new BallPots().lawful(), 1);
    }

    private void without() {
        s.says(7, "So many, if a BAR weren't; NONE: no such one.");
        BallPots x = Tapes.of(THREE);
        s.due("the first", x.without(0), 24);
        s.due("the last", x.without(1), 24);
        for (int bar : new int[] {-1, 2, 10, 31, 32, 33, MIN, MAX}) {
            s.due("without(" + bar + ")", x.without(bar), -1);
        }
        BallPots ten = Tapes.of("groups 2;pot a b;" + "never a 1;".repeat(9) + "never a 0;");
        s.due("the first of ten", ten.without(0), 0);
        s.due("the tenth", ten.without(9), 1);
        s.due("no eleventh", ten.without(10), -1);
        s.due("no bars", Tapes.of("groups 2;pot a b;").without(0), -1);
        s.due("without a text", new BallPots().without(0), -1);
    }

    private void forbids() {
        s.says(8, "If no DRAW is LAWFUL: the fewest BARS that together let none (bits), of several the least; 0:"
                + " some is.");
        s.due("some is, one alone", Tapes.of("groups 2;pot a b;never a 0;never b 1;fixed a 1;").forbids(), 0);
        s.due("all are", Tapes.of(TWELVE).forbids(), 0);
        s.due("without a text", new BallPots().forbids(), 0);
        s.due("two of three", Tapes.of(NO_DRAW).forbids(), 3);
        s.due("the least of four twos",
                Tapes.of("groups 2;pot a b;never a 0;never a 1;never b 0;never b 1;").forbids(), 3);
        s.due("the least of two twos", Tapes.of("groups 2;pot a b;never a 1;never b 0;never b 1;never a 0;").forbids(),
                5);
        s.due("one, though two are lesser",
                Tapes.of("groups 2;pot a b;pot c d;mark m a b c;never a 0;never a 1;atmost 1 m;").forbids(), 4);
        s.due("the tenth alone", Tapes.of("groups 2;pot a b;pot c d;mark m a b c;" + "never a 0;".repeat(9)
                + "atmost 1 m;").forbids(), 512);
        s.due("nobody may be in group 1: four, though six keep a and b in one",
                Tapes.of("groups 4;pot a b c d;never c 0;never c 1;never d 0;never d 1;never a 1;never a 2;never a 3;"
                + "never b 1;never b 2;never b 3;").forbids(), 2 | 8 | 16 | 128);
        s.due("all four of four", Tapes.of("groups 4;pot a b c d;never a 0;never a 1;never a 2;never a 3;").forbids(),
                15);
        String[] texts = {"groups 3;pot a b c;pot d e f;never a 0;never b 0;apart a e;never c 0;fixed d 2;",
            "groups 3;pot a b c;pot d e f;mark m a b d e;apart a d;atmost 1 m;never c 1;fixed c 2;never c 2;",
            "groups 2;pot a b;pot c d;pot e f;apart a c;apart c e;fixed a 0;apart a e;fixed f 1;"};
        for (String text : texts) {
            s.due("by texts with fewer bars: " + text, Tapes.of(text).forbids(), fewest(text, ""));
        }
        s.due("three of four let some", Tapes.of("groups 4;pot a b c d;never a 0;never a 1;never a 2;").forbids(), 0);
    }

    /** The fewest bars of a text that let none together with some more bars, found by texts with fewer bars. */
    static int fewest(String text, String more) {
        int bars = Tapes.of(text).count(4);
        int found = (1 << bars) - 1;
        for (int set = 0; set < 1 << bars; set++) {
            boolean none = Tapes.of(Tapes.withBars(text, set) + more).lawful() == 0;
            if (none && Integer.bitCount(set) < Integer.bitCount(found)) {
                found = set;
            }
        }
        return found;
    }

    private void draw() {
        s.says(9, "Of the k-th LAWFUL DRAW by CODES: the GROUP of a TEAM; NONE: there is none such, no such TEAM.");
        BallPots x = Tapes.of(TWO);
        s.due("the first", row(x, 0), "0110");
        s.due("the last", row(x, 1), "1001");
        for (int k : new int[] {-1, 2, 4, MIN, MAX}) {
            s.due("draw(" + k + ", 0)", x.draw(k, 0), -1);
        }
        for (int team : new int[] {-1, 4, 12, MIN, MAX}) {
            s.due("draw(0, " + team + ")", x.draw(0, team), -1);
            s.due("draw(1, " + team + ")", x.draw(1, team), -1);
        }
        s.due("none is lawful", Tapes.of(NO_DRAW).draw(0, 0), -1);
        s.due("no teams", new BallPots().draw(0, 0), -1);
        BallPots twelve = Tapes.of(TWELVE);
        s.due("the last of all", twelve.draw(13823, 11), 0);
        s.due("none behind it", twelve.draw(13824, 11), -1);
        s.due("no thirteenth team", twelve.draw(13823, 12), -1);
    }

    private void judge() {
        s.says(10, "Whether a DRAW of a CODE is LAWFUL (1, 0); NONE: no such CODE.");
        BallPots x = Tapes.of(TWO);
        int[] due = {0, 1, 1, 0};
        for (int code = 0; code < due.length; code++) {
            s.due("judge(" + code + ")", x.judge(code), due[code]);
        }
        for (int code : new int[] {-1, 4, MIN, MAX}) {
            s.due("judge(" + code + ")", x.judge(code), -1);
        }
        s.due("none is lawful", Tapes.of(NO_DRAW).judge(1), 0);
        s.due("none is lawful, no such code", Tapes.of(NO_DRAW).judge(2), -1);
        BallPots twelve = Tapes.of(TWELVE);
        s.due("the last of all", twelve.judge(13823), 1);
        s.due("none behind it", twelve.judge(13824), -1);
        s.due("a smaller text behind it", Tapes.read(twelve, TWO), 4);
        s.due("has no codes of the larger one", twelve.judge(4), -1);
    }

    private void moves() {
        s.says(Sentences.TERMS, "A BAR MOVES a PAIR: its LAWFUL DRAWS times all without the BAR, less its LAWFUL"
                + " DRAWS without the BAR times all with it.");
        BallPots x = Tapes.of(THREE);
        s.due("apart a d: 0 * 24 - 8 * 16", x.moves(0, 0, 3), -128);
        s.due("the other way round", x.moves(0, 3, 0), -128);
        s.due("apart a d, a and e: 8 * 24 - 8 * 16", x.moves(0, 0, 4), 64);
        s.due("never e 2, the last pair", x.moves(1, 2, 5), 0);
        s.due("of one pot", x.moves(0, 0, 1), 0);
        s.says(26, "How a BAR MOVES a PAIR; Long.MIN_VALUE: no such ones, both the same.");
        for (int bar : new int[] {-1, 2, 31, 32, MIN, MAX}) {
            s.due("moves(" + bar + ", 0, 3)", x.moves(bar, 0, 3), NO);
        }
        for (int team : new int[] {-1, 6, 12, MIN, MAX}) {
            s.due("moves(0, " + team + ", 3)", x.moves(0, team, 3), NO);
            s.due("moves(0, 3, " + team + ")", x.moves(0, 3, team), NO);
        }
        for (int team = 0; team < 6; team++) {
            s.due("both the same: " + team, x.moves(0, team, team), NO);
        }
        s.due("none is lawful", Tapes.of(NO_DRAW).moves(2, 0, 1), 0);
        s.due("none is lawful, no such bar", Tapes.of(NO_DRAW).moves(3, 0, 1), NO);
        s.due("no bars", Tapes.of("groups 2;pot a b;").moves(0, 0, 1), NO);
    }

    private void leave() {
        s.says(27, "TO LEAVE OUT (bits; 0: none need be); NONE: no two do, N isn't 0 .. 100.");
        BallPots x = Tapes.of(TWO);
        s.due("100: a and d are always together", x.leave(100), 0);
        s.due("99: without apart", x.leave(99), 1);
        s.due("50: two of four", x.leave(50), 1);
        s.due("49", x.leave(49), -1);
        s.due("0", x.leave(0), -1);
        for (int n : new int[] {-1, 101, MIN, MAX}) {
            s.due("leave(" + n + ")", x.leave(n), -1);
            s.due("leave(" + n + ") of no pairs", new BallPots().leave(n), -1);
        }
        s.due("no pots", new BallPots().leave(0), 0);
        s.due("one pot", Tapes.of("groups 2;pot a b;never a 0;").leave(0), 0);
        String pot = "groups 2;pot a b;";
        s.due("one pot, none lawful: three", Tapes.of(pot + "never a 0;never a 1;".repeat(3)).leave(100), -1);
        s.due("one pot, none lawful: two", Tapes.of(pot + "never a 0;never a 1;".repeat(2)).leave(100), 5);
    }

    /** All that leave(), moves() and without() answer, by texts without these bars. */
    private void byTexts(String text) {
        BallPots x = Tapes.of(text);
        int every = (1 << x.count(4)) - 1;
        long[] most = new long[every + 1];
        long[] all = new long[every + 1];
        for (int set = 0; set <= every; set++) {
            BallPots y = Tapes.of(Tapes.withBars(text, every & ~set));
            all[set] = y.lawful();
            for (int a = 0; a < y.count(2); a++) {
                for (int b = (a / y.count(0) + 1) * y.count(0); b < y.count(2); b++) {
                    most[set] = Math.max(most[set], y.pair(a, b, 1));
                    if (Integer.bitCount(set) == 1) {
                        int bar = Integer.numberOfTrailingZeros(set);
                        s.due("moves(" + bar + ", " + a + ", " + b + ") of " + text, x.moves(bar, a, b),
                                x.pair(a, b, 1) * y.lawful() - y.pair(a, b, 1) * x.lawful());
                    }
                }
            }
        }
        for (int bar = 0; bar < x.count(4); bar++) {
            s.due("without(" + bar + ") of " + text, x.without(bar), all[1 << bar]);
        }
        for (int n = 0; n <= 100; n++) {
            int found = -1;
            for (int set = 0; set <= every; set++) {
                boolean better = found == -1 || Integer.bitCount(set) < Integer.bitCount(found);
                if (Integer.bitCount(set) <= 2 && better && all[set] > 0 && most[set] * 100 <= n * all[set]) {
                    found = set;
                }
            }
            s.due("leave(" + n + ") of " + text, x.leave(n), found);
        }
    }

    private void leaveOneOrTwo() {
        s.says(Sentences.TERMS, "TO LEAVE OUT for N of 100: the fewest BARS, two at most, without which no PAIR of"
                + " TEAMS of unlike POTS has more than N of 100 of the LAWFUL DRAWS (and some is LAWFUL); of"
                + " several the least bits.");
        BallPots x = Tapes.of(THREE);
        s.due("50: 8 of 16", x.leave(50), 0);
        s.due("49: without apart 8 of 24", x.leave(49), 1);
        s.due("34", x.leave(34), 1);
        s.due("33: 12 of 36 without both", x.leave(33), -1);
        s.due("some must be lawful", Tapes.of("groups 2;pot a b;never a 0;never a 1;").leave(100), 1);
        s.due("the last of ten", Tapes.of("groups 2;pot a b;" + "never a 0;".repeat(9) + "never a 1;").leave(0), 512);
        s.due("the least of two twos", Tapes.of("groups 2;pot a b;never a 0;never a 1;never b 0;never b 1;").leave(0),
                6);
        s.due("the ninth and tenth", Tapes.of("groups 2;pot a b;" + "never a 0;".repeat(8) + "never a 1;never b 0;")
                .leave(0), 256 | 512);
        s.due("two", Tapes.of("groups 2;pot a b;pot c d;apart a c;apart b d;").leave(50), 3);
        s.due("not three", Tapes.of("groups 2;pot a b;pot c d;apart a c;apart b d;apart c a;").leave(50), -1);
        byTexts("groups 3;pot a b c;pot d e f;apart a d;never e 2;apart b d;fixed c 1;never f 0;");
        byTexts("groups 3;pot a b c;pot d e f;apart a d;apart b e;apart a f;apart b f;");
        byTexts("groups 2;pot a b;pot c d;pot e f;mark m a c e;atmost 2 m;apart a c;never d 0;fixed e 1;");
        byTexts("groups 4;pot a b c d;pot e f g h;apart a e;apart a f;apart b e;apart b g;apart d h;");
    }

    private void parts() {
        s.says(28, "NONE for another what.");
        BallPots x = Tapes.of("groups 3;pot a b c;pot d e f;mark m b c f;never b 1;atmost 1 m;");
        s.due("parts", x.parts(0), 3);
        s.due("that of the least code", x.parts(1), 2);
        s.due("the greatest", x.parts(2), 4);
        for (int what : new int[] {-1, 3, MIN, MAX}) {
            s.due("parts(" + what + ")", x.parts(what), -1);
        }
        s.says(28, "What 0: how many PARTS, 1: how many DRAWS are in that of the least CODE, 2: in the greatest"
                + " PART.");
        for (int what = 0; what < 3; what++) {
            s.due("none is lawful", Tapes.of(NO_DRAW).parts(what), 0);
            s.due("one is", Tapes.of("groups 2;pot a b;never a 0;").parts(what), 1);
            s.due("without a text", new BallPots().parts(what), 1);
        }
        s.says(Sentences.TERMS, "==== 4. SWAPS: two GROUPS change their TEAMS of one POT; one that leads to a"
                + " LAWFUL DRAW is LAWFUL. PARTS: LAWFUL DRAWS, joined by LAWFUL SWAPS.");
        BallPots two = Tapes.of(TWO);
        s.due("none is joined", two.parts(0) * 100 + two.parts(1) * 10 + two.parts(2), 211);
        BallPots all = Tapes.of(TWELVE);
        s.due("all are joined", all.parts(0), 1);
        s.due("all are joined", all.parts(1), 13824);
        s.due("all are joined", all.parts(2), 13824);
    }

    private void mix() {
        s.says(Sentences.TERMS, "MIX n (0 .. 5):");
        BallPots x = Tapes.of("groups 3;pot a b c;");
        int[] toItself = {1, 0, 3, 0, 27, 0};
        for (int n = 0; n <= 5; n++) {
            s.due("mix(" + n + ", 0)", x.mix(n, 0), toItself[n]);
            s.due("mixed(" + n + ", 0)", x.mixed(n, 0) >= 0, true);
        }
        s.due("mix(-1, 0)", x.mix(-1, 0), -1);
        s.due("mix(6, 0)", x.mix(6, 0), -1);
        s.says(Sentences.TERMS, "from the LAWFUL DRAW of the least CODE on, n times one of all SWAPS (each POT with"
                + " each two GROUPS alike likely) is done if it is LAWFUL (else nothing is): how many of all rows"
                + " of n SWAPS lead to a DRAW.");
        BallPots barred = Tapes.of("groups 3;pot a b c;never a 0;");
        s.due("it begins with code 2: 1 0 2", barred.mix(0, 2), 1);
        s.due("not with code 0", barred.mix(0, 0), 0);
        s.due("0 and 1 may not change: it stays", barred.mix(1, 2), 1);
        s.due("0 and 2 change: 1 2 0", barred.mix(1, 3), 1);
        s.due("1 and 2 change: 2 0 1", barred.mix(1, 4), 1);
        s.due("2 1 0 is two swaps off", barred.mix(1, 5), 0);
        s.says(29, "MIX n: rows that lead to a DRAW of a CODE; NONE: no such n, no such CODE, no DRAW is LAWFUL.");
        for (int n : new int[] {-1, 6, MIN, MAX}) {
            s.due("mix(" + n + ", 5)", x.mix(n, 5), -1);
        }
        for (int code : new int[] {-1, 6, MIN, MAX}) {
            s.due("mix(0, " + code + ")", x.mix(0, code), -1);
            s.due("mix(5, " + code + ")", x.mix(5, code), -1);
        }
        s.due("mix(5, 5)", x.mix(5, 5), 81);
        s.due("mix(0, 5)", x.mix(0, 5), 0);
        s.due("mix(2, 0)", x.mix(2, 0), 3);
        s.due("parts(2) between", x.parts(2), 6);
        s.due("mix(3, 1)", x.mix(3, 1), 9);
        s.due("none is lawful", Tapes.of(NO_DRAW).mix(0, 0), -1);
        s.due("a code that isn't lawful", Tapes.of(TWO).mix(5, 0), 0);
        s.due("no swap is lawful: all rows stay", Tapes.of(TWO).mix(5, 1), 32);
        s.due("but for the other part", Tapes.of(TWO).mix(5, 2), 0);
        s.due("no pots, no swap", new BallPots().mix(0, 0), 1);
        s.due("no pots, one swap", new BallPots().mix(1, 0), 0);
        s.due("no pots, no such code", new BallPots().mix(0, 1), -1);
        BallPots twelve = Tapes.of(TWELVE);
        long sum = 0;
        for (int code = 0; code < 13824; code++) {
            sum += twelve.mix(5, code);
        }
        s.due("all rows of five together", sum, 18L * 18 * 18 * 18 * 18);
        s.due("no such code", twelve.mix(5, 13824), -1);
    }

    private void mixed() {
        s.says(30, "UNEVEN of MIX n (what 0), all rows of n SWAPS times how many DRAWS are LAWFUL (1). NONE: no"
                + " such ones, no DRAW is LAWFUL.");
        BallPots x = Tapes.of("groups 3;pot a b c;");
        for (int n : new int[] {-1, 6, MIN, MAX}) {
            s.due("mixed(" + n + ", 0)", x.mixed(n, 0), -1);
            s.due("mixed(" + n + ", 1)", x.mixed(n, 1), -1);
        }
        for (int what : new int[] {-1, 2, MIN, MAX}) {
            s.due("mixed(0, " + what + ")", x.mixed(0, what), -1);
            s.due("mixed(5, " + what + ")", x.mixed(5, what), -1);
        }
        s.due("none is lawful", Tapes.of(NO_DRAW).mixed(0, 0), -1);
        s.due("none is lawful", Tapes.of(NO_DRAW).mixed(0, 1), -1);
        s.says(Sentences.TERMS, "UNEVEN: the sum, over LAWFUL DRAWS, of these times how many LAWFUL DRAWS there"
                + " are, less all rows of n SWAPS, without sign.");
        s.due("at first: once 6 less 1, five times 1", x.mixed(0, 0), 10);
        s.due("at first", x.mixed(0, 1), 6);
        s.due("after five 81 each for three: six times 243", x.mixed(5, 0), 1458);
        s.due("after five", x.mixed(5, 1), 1458);
        s.due("no pots, no swap", new BallPots().mixed(0, 0), 0);
        s.due("no pots, no swap", new BallPots().mixed(0, 1), 1);
        s.due("no pots, one swap", new BallPots().mixed(1, 0), 0);
        s.due("no pots, one swap", new BallPots().mixed(1, 1), 0);
        s.due("more than an int holds", Tapes.of(TWELVE).mixed(5, 1), 26121388032L);
        BallPots twelve = Tapes.of(TWELVE);
        s.due("13824 less 1, and 1 for each other draw", twelve.mixed(0, 0), 27646);
        long uneven = 0;
        for (int code = 0; code < 13824; code++) {
            uneven += Math.abs(twelve.mix(5, code) * 13824L - 1889568);
        }
        s.due("more than an int holds", uneven > MAX, true);
        s.due("by the rows to each draw", twelve.mixed(5, 0), uneven);
    }
}
