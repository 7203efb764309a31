/** The boundaries of rows of ways and how far apart these are: promises 20 to 25. */
final class EdgesOfChances {
    private static final int MIN = Integer.MIN_VALUE;
    private static final int MAX = Integer.MAX_VALUE;
    private static final long NO = Long.MIN_VALUE;
    private static final int[] NO_WAYS = {-1, 3, MIN, MAX};
    private static final String TWO = "groups 2;pot a b;pot c d;apart a c;";
    private static final String THREE = "groups 3;pot a b c;pot d e f;apart a d;never e 2;";
    private static final String TWELVE = "groups 4;pot a b c d;pot e f g h;pot i j k l;";
    private static final String NO_DRAW = "groups 2;pot a b;pot c d;never a 0;never a 1;never b 0;";

    private final Sentences s;

    EdgesOfChances(Sentences s) {
        this.s = s;
    }

    void all() {
        ways();
        shares();
        noRows();
        byStage();
        pair();
        place();
        allRows();
        apart();
        apartWithoutPair();
        nearest();
        nearestOfSeveral();
        leads();
    }

    private static String alls(BallPots x) {
        return x.all(0) + " " + x.all(1) + " " + x.all(2);
    }

    private void ways() {
        String[] texts = {TWO, THREE, "groups 2;pot a b;pot c d;pot e f;pot g h;apart a c;apart e h;never g 0;",
            "groups 4;pot a b c d;pot e f g h;apart a e;never b 0;fixed f 3;mark m c d g;atmost 1 m;"};
        for (String text : texts) {
            BallPots x = Tapes.of(text);
            waysOf(x);
            x.order(x.count(1) == 2 ? 1 : 2 | 0 << 2 | 3 << 4 | 1 << 6);
            x.arrange(new int[] {0, 0, 1, 2 | 0 << 2 | 1 << 4, 1 | 3 << 2 | 2 << 4}[x.count(0)]);
            waysOf(x);
        }
    }

    private void waysOf(BallPots x) {
        s.says(Sentences.TERMS, "Balls of a POT come one by one, each of those left alike likely.");
        s.due("all rows of balls", x.all(0), x.count(6));
        s.says(Sentences.TERMS, "WAYS: 0 SKIP: a TEAM is put in the first GROUP, by the ARRANGEMENT, that is OPEN;"
                + " its ROWS: all rows of balls, alike.");
        int[] codes = new int[x.count(6)];
        for (int row = 0; row < codes.length; row++) {
            codes[row] = x.leads(row);
        }
        rowsTo(x, codes, 0);
        s.says(Sentences.TERMS, "1 EVEN: ROWS: all LAWFUL DRAWS, alike.");
        int[] lawful = new int[x.lawful()];
        int k = 0;
        for (int code = 0; code < x.count(6); code++) {
            if (x.judge(code) == 1) {
                lawful[k++] = code;
            }
        }
        rowsTo(x, lawful, 1);
        s.says(Sentences.TERMS, "CHANCES of a PAIR of TEAMS to be in one GROUP, of a TEAM to be in a GROUP: so many"
                + " ROWS by all ROWS.");
        for (int way = 0; way < 3; way++) {
            together(x, way);
        }
    }

    /** By how many of the codes, one for each row, teams are in groups and pairs in one. */
    private void rowsTo(BallPots x, int[] codes, int way) {
        int teams = x.count(2);
        int groups = x.count(0);
        long[][] places = new long[teams][groups];
        long[][] pairs = new long[teams][teams];
        for (int code : codes) {
            int[] draw = drawOf(code, teams, groups);
            for (int a = 0; a < teams; a++) {
                places[a][draw[a]]++;
                for (int b = 0; b < teams; b++) {
                    pairs[a][b] += draw[a] == draw[b] ? 1 : 0;
                }
            }
        }
        s.due("all(" + way + ")", x.all(way), codes.length);
        for (int a = 0; a < teams; a++) {
            for (int g = 0; g < groups; g++) {
                s.due("place(" + a + ", " + g + ", " + way + ")", x.place(a, g, way), places[a][g]);
            }
            for (int b = 0; b < teams; b++) {
                s.due("pair(" + a + ", " + b + ", " + way + ")", x.pair(a, b, way), a == b ? -1 : pairs[a][b]);
            }
        }
    }

    private static int[] drawOf(int code, int teams, int groups) {
        int[] draw = new int[teams];
        int rest = code;
        int many = Oracle.rowsOf(groups).size();
        for (int pot = teams / groups - 1; pot >= 0; pot--) {
            System.arraycopy(Oracle.rowsOf(groups).get(rest % many), 0, draw, pot * groups, groups);
            rest /= many;
        }
        return draw;
    }

    /** A team is in one group and with one team of each other pot in every row. */
    private void together(BallPots x, int way) {
        int groups = x.count(0);
        for (int a = 0; a < x.count(2); a++) {
            long sum = 0;
            for (int g = 0; g < groups; g++) {
                sum += x.place(a, g, way);
            }
            s.due("all places of " + a + " by " + way, sum, x.all(way));
            for (int pot = 0; pot < x.count(1); pot++) {
                sum = 0;
                for (int b = pot * groups; b < (pot + 1) * groups; b++) {
                    sum += a == b ? 0 : x.pair(a, b, way);
                }
                s.due("all pairs of " + a + " by " + way, sum, pot == a / groups ? 0 : x.all(way));
            }
        }
    }

    private void shares() {
        s.says(Sentences.TERMS, "2 FIELD: a TEAM is put in one of those that are OPEN, each alike likely; ROWS:"
                + " rows of balls, each as often as the product, over its balls, of SHARES: of a ball the least"
                + " number into which all of 1 .. (how many balls of its POT are left, it with them) go; a ball's"
                + " GROUPS part its SHARE alike.");
        s.due("two balls: 2! * 2", Tapes.of("groups 2;pot a b;").all(2), 4);
        s.due("three balls: 3! * 6 * 2", Tapes.of("groups 3;pot a b c;").all(2), 72);
        s.due("four balls: 4! * 12 * 6 * 2", Tapes.of("groups 4;pot a b c d;").all(2), 3456);
        BallPots x = Tapes.of("groups 3;pot a b c;never a 0;");
        s.due("a has two groups", x.place(0, 1, 2), 36);
        s.due("and no third", x.place(0, 0, 2), 0);
        s.due("b first: 0 or another, 6 by 3, or 0 by then", x.place(1, 0, 2) + x.place(2, 0, 2), 72);
        BallPots four = Tapes.of("groups 4;pot a b c d;never a 0;never a 1;never a 2;");
        s.due("a has one group, all its shares", four.place(0, 3, 2), 3456);
        s.due("the others part the rest", four.place(1, 0, 2), 1152);
        BallPots three = Tapes.of("groups 4;pot a b c d;never a 0;");
        s.due("a first: 12 by 3 to each of three", three.place(0, 1, 2), 1152);
        s.due("nothing to the fourth", three.place(0, 0, 2), 0);
    }

    private void noRows() {
        s.says(Sentences.TERMS, "If no DRAW is LAWFUL there are no ROWS.");
        BallPots none = Tapes.of(NO_DRAW);
        BallPots some = Tapes.of("groups 2;pot a b;never a 0;");
        for (int way = 0; way < 3; way++) {
            s.due("all(" + way + ")", none.all(way), 0);
            s.due("pair(0, 2, " + way + ")", none.pair(0, 2, way), 0);
            s.due("place(0, 1, " + way + ")", none.place(0, 1, way), 0);
            s.due("some is: all(" + way + ")", some.all(way), new int[] {2, 1, 4}[way]);
            s.due("some is: place(0, 1, " + way + ")", some.place(0, 1, way), some.all(way));
        }
    }

    private void byStage() {
        s.says(Sentences.TERMS, "A STAGE: TEAMS whose balls are out, each placed by SKIP. By the STAGE from now on:"
                + " SKIP, FIELD: ROWS of the balls left (of the POT begun, then the others); EVEN: LAWFUL DRAWS"
                + " with those placed as they are.");
        BallPots four = Tapes.of("groups 4;pot a b c d;");
        String[] due = {"24 24 3456", "6 6 72", "2 2 4", "1 1 1", "1 1 1"};
        for (int out = 0; out <= 4; out++) {
            s.due(out + " of four are out", alls(four), due[out]);
            four.ball(3 - out);
        }
        BallPots x = Tapes.of(THREE);
        s.due("none is out", alls(x), "36 16 5184");
        x.ball(2);
        s.due("one is out", alls(x), "12 5 288");
        s.due("it stays there", x.place(2, 0, 0) + " " + x.place(2, 0, 1) + " " + x.place(2, 0, 2), "12 5 288");
        x.ball(0);
        s.due("two are out", alls(x), "6 3 72");
        x.ball(1);
        s.due("a pot is out", alls(x), "6 3 72");
        x.ball(5);
        s.due("one of the next", alls(x), "2 1 4");
        x.ball(3);
        x.ball(4);
        s.due("all are out", alls(x), "1 1 1");
        s.due("a is with e", x.pair(0, 4, 0) + " " + x.pair(0, 4, 1) + " " + x.pair(0, 4, 2), "1 1 1");
        s.due("a is not with f", x.pair(0, 5, 0) + " " + x.pair(0, 5, 1) + " " + x.pair(0, 5, 2), "0 0 0");
        byBalls(THREE, 36, 36, 0, 2, 1, 4, 3);
        byBalls("groups 2;pot a b;pot c d;pot e f;pot g h;apart a c;apart e h;never g 0;apart b h;", 114, 1,
                5, 4, 1, 0, 7);
        byBalls("groups 3;pot a b c;pot d e f;pot g h i;never c 0;apart g a;apart f h;apart d i;", 18, 9,
                8, 6, 7, 0, 2, 1);
        byBalls("groups 4;pot a b c d;pot e f g h;apart a e;never b 0;fixed f 3;", 1, 99, 4, 7, 6, 5, 0, 1);
    }

    /** What the rows of the balls left lead to, gone through ball by ball, on objects that have not been asked yet. */
    private void byBalls(String text, int order, int arrangement, int... teams) {
        for (int out = 0; out <= teams.length; out++) {
            BallPots x = Tapes.of(text);
            s.due("order " + order, x.order(order), true);
            s.due("arrangement " + arrangement, x.arrange(arrangement), true);
            for (int k = 0; k < out; k++) {
                s.due("ball(" + teams[k] + ") of " + text, x.ball(teams[k]) >= 0, true);
            }
            int many = x.count(2);
            long[][] places = new long[many][x.count(0)];
            long[][] pairs = new long[many][many];
            long rows = goThrough(x, places, pairs);
            s.due("all(0)", x.all(0), rows);
            for (int a = 0; a < many; a++) {
                for (int g = 0; g < x.count(0); g++) {
                    s.due("place(" + a + ", " + g + ", 0) of " + text, x.place(a, g, 0), places[a][g]);
                }
                for (int b = 0; b < many; b++) {
                    s.due("pair(" + a + ", " + b + ", 0) of " + text, x.pair(a, b, 0), a == b ? -1 : pairs[a][b]);
                }
            }
            for (int way = 0; way < 3; way++) {
                together(x, way);
            }
            evenByStage(x);
        }
    }

    private static long goThrough(BallPots x, long[][] places, long[][] pairs) {
        int many = x.count(2);
        long rows = 0;
        for (int team = 0; team < many; team++) {
            if (x.ball(team) >= 0) {
                rows += goThrough(x, places, pairs);
                x.undo();
            }
        }
        if (x.count(5) < many) {
            return rows;
        }
        for (int a = 0; a < many; a++) {
            places[a][x.placed(a)]++;
            for (int b = 0; b < many; b++) {
                pairs[a][b] += x.placed(a) == x.placed(b) ? 1 : 0;
            }
        }
        return 1;
    }

    private void evenByStage(BallPots x) {
        int many = x.count(2);
        long[][] pairs = new long[many][many];
        long rows = 0;
        for (int k = 0; k < x.lawful(); k++) {
            boolean fits = true;
            for (int a = 0; a < many; a++) {
                fits = fits && (x.placed(a) < 0 || x.placed(a) == x.draw(k, a));
            }
            rows += fits ? 1 : 0;
            for (int a = 0; fits && a < many; a++) {
                for (int b = 0; b < many; b++) {
                    pairs[a][b] += x.draw(k, a) == x.draw(k, b) ? 1 : 0;
                }
            }
        }
        s.due("all(1)", x.all(1), rows);
        for (int a = 0; a < many; a++) {
            for (int b = 0; b < many; b++) {
                s.due("pair(" + a + ", " + b + ", 1)", x.pair(a, b, 1), a == b ? -1 : pairs[a][b]);
            }
        }
    }

    private void pair() {
        s.says(20, "By the STAGE from now on, ROWS of a WAY in which a PAIR of TEAMS is in one GROUP. NONE: no such"
                + " ones, both the same.");
        BallPots x = Tapes.of(TWO);
        s.due("the first and the last", x.pair(0, 3, 0) + " " + x.pair(0, 3, 1) + " " + x.pair(0, 3, 2), "4 2 16");
        s.due("the last and the first", x.pair(3, 0, 0) + " " + x.pair(3, 0, 1) + " " + x.pair(3, 0, 2), "4 2 16");
        s.due("of one pot", x.pair(2, 3, 0) + " " + x.pair(1, 0, 1) + " " + x.pair(0, 1, 2), "0 0 0");
        for (int way = 0; way < 3; way++) {
            for (int team : new int[] {-1, 4, 12, MIN, MAX}) {
                s.due("pair(" + team + ", 1, " + way + ")", x.pair(team, 1, way), -1);
                s.due("pair(1, " + team + ", " + way + ")", x.pair(1, team, way), -1);
                s.due("neither", x.pair(team, team, way), -1);
            }
            for (int team = 0; team < 4; team++) {
                s.due("both the same: " + team, x.pair(team, team, way), -1);
            }
        }
        for (int way : NO_WAYS) {
            s.due("pair(0, 3, " + way + ")", x.pair(0, 3, way), -1);
        }
        BallPots none = Tapes.of(NO_DRAW);
        s.due("none is lawful, no such team", none.pair(0, 4, 0), -1);
        s.due("none is lawful, no such way", none.pair(0, 3, 3), -1);
        s.due("none is lawful", none.pair(0, 3, 2), 0);
        BallPots one = Tapes.of("groups 2;pot a b;pot c d;fixed a 0;fixed d 0;");
        s.due("one is lawful", one.pair(0, 3, 0) + " " + one.pair(0, 3, 1) + " " + one.pair(0, 3, 2), "4 1 16");
        s.due("no teams", new BallPots().pair(0, 1, 0), -1);
    }

    private void place() {
        s.says(21, "Those in which a TEAM is in a GROUP. NONE: no such ones.");
        BallPots x = Tapes.of(TWO);
        s.due("the last team, the last group", x.place(3, 1, 0) + " " + x.place(3, 1, 1) + " " + x.place(3, 1, 2),
                "2 1 8");
        for (int way = 0; way < 3; way++) {
            for (int team : new int[] {-1, 4, 12, MIN, MAX}) {
                s.due("place(" + team + ", 0, " + way + ")", x.place(team, 0, way), -1);
            }
            for (int group : new int[] {-1, 2, 4, MIN, MAX}) {
                s.due("place(0, " + group + ", " + way + ")", x.place(0, group, way), -1);
            }
        }
        for (int way : NO_WAYS) {
            s.due("place(0, 0, " + way + ")", x.place(0, 0, way), -1);
        }
        s.due("the fourth group", Tapes.of(TWELVE).place(11, 3, 1), 3456);
        s.due("no fifth group", Tapes.of(TWELVE).place(11, 4, 1), -1);
        s.due("none is lawful, no such group", Tapes.of(NO_DRAW).place(0, 2, 0), -1);
        s.due("no teams", new BallPots().place(0, 0, 0), -1);
    }

    private void allRows() {
        s.says(22, "All its ROWS. NONE: no such WAY.");
        s.due("of twelve teams", alls(Tapes.of(TWELVE)), "13824 13824 41278242816");
        s.due("of four pots of three", alls(Tapes.of("groups 3;pot a b c;pot d e f;pot g h i;pot j k l;")),
                "1296 1296 26873856");
        s.due("of no pots", alls(new BallPots()), "1 1 1");
        for (int way : NO_WAYS) {
            s.due("all(" + way + ")", Tapes.of(TWO).all(way), -1);
            s.due("all(" + way + "), none is lawful", Tapes.of(NO_DRAW).all(way), -1);
        }
    }

    private void apart() {
        s.says(23, "5: all ROWS of the one times all of the other. Long.MIN_VALUE: no DRAW is LAWFUL, no such ones.");
        BallPots x = Tapes.of(THREE);
        s.due("all of 0 and 1", parts(x, 0, 1), "32 128 0 4 -32 576");
        s.due("all of 1 and 0", parts(x, 1, 0), "32 128 0 4 32 576");
        for (int what : new int[] {-1, 6, MIN, MAX}) {
            s.due("apart(0, 1, " + what + ")", x.apart(0, 1, what), NO);
        }
        for (int way : NO_WAYS) {
            for (int what = 0; what <= 5; what++) {
                s.due("apart(0, " + way + ", " + what + ")", x.apart(0, way, what), NO);
                s.due("apart(" + way + ", 2, " + what + ")", x.apart(way, 2, what), NO);
            }
        }
        for (int what = 0; what <= 5; what++) {
            for (int way = 0; way < 3; way++) {
                s.due("like ways: " + way, x.apart(way, way, what), NO);
            }
            s.due("no draw is lawful: " + what, Tapes.of(NO_DRAW).apart(0, 1, what), NO);
            s.due("no draw is lawful: " + what, Tapes.of(NO_DRAW).apart(2, 1, what), NO);
        }
        s.says(Sentences.TERMS, "FAR of a PAIR of TEAMS of unlike POTS by two WAYS: its ROWS by the first times all"
                + " of the second, less its ROWS by the second times all of the first (from the beginning, by the"
                + " ORDER and ARRANGEMENT of now).");
        for (int team : new int[] {2, 0, 1, 5, 3, 4}) {
            x.ball(team);
            s.due("whatever is out", parts(x, 0, 1), "32 128 0 4 -32 576");
        }
        BallPots out = Tapes.of(THREE);
        for (int team : new int[] {2, 0, 1, 5}) {
            out.ball(team);
            out.pair(0, 4, 0);
            out.pair(0, 4, 1);
        }
        s.due("whatever was asked of the stage", parts(out, 0, 1), "32 128 0 4 -32 576");
        BallPots y = Tapes.of("groups 3;pot a b c;pot d e f;pot g h i;never c 0;apart g a;apart f h;");
        s.due("order and arrangement 0, 1, 2", y.apart(0, 1, 0), 1280);
        y.arrange(1 | 0 << 2 | 2 << 4);
        s.due("arrangement 1, 0, 2", y.apart(0, 1, 0), 1152);
        y.order(0 | 2 << 2 | 1 << 4);
        s.due("order 0, 2, 1", y.apart(0, 1, 0), 832);
        y.order(0 | 1 << 2 | 2 << 4);
        y.arrange(0 | 1 << 2 | 2 << 4);
        s.due("as at first", y.apart(0, 1, 0), 1280);
    }

    private static String parts(BallPots x, int one, int other) {
        StringBuilder all = new StringBuilder();
        for (int what = 0; what <= 5; what++) {
            all.append(what == 0 ? "" : " ").append(x.apart(one, other, what));
        }
        return all.toString();
    }

    private void apartWithoutPair() {
        s.says(Sentences.TERMS, "APART: the greatest FAR without sign; SUM: all without sign together, each PAIR"
                + " once.");
        sumByPairs(THREE);
        sumByPairs(TWO);
        sumByPairs("groups 3;pot a b c;pot d e f;apart a d;apart b e;never c 0;");
        s.says(23, "Of two unlike WAYS, what 0: APART, 1: SUM,");
        sumByPairs("groups 2;pot a b;pot c d;pot e f;apart a c;apart a e;never d 1;");
        s.says(23, "2, 3: the PAIR of APART, of several the first by its lesser TEAM, then the other (NONE without"
                + " a PAIR), 4: FAR of that PAIR (0 without one),");
        s.due("one pot", parts(Tapes.of("groups 2;pot a b;never a 0;"), 0, 1), "0 0 -1 -1 0 2");
        s.due("no pots", parts(new BallPots(), 0, 1), "0 0 -1 -1 0 1");
        s.due("no pots", parts(new BallPots(), 2, 1), "0 0 -1 -1 0 1");
        s.due("all alike: the first pair", parts(Tapes.of("groups 2;pot a b;pot c d;"), 0, 1), "0 0 0 2 0 16");
        s.due("all alike: the first pair", parts(Tapes.of(TWELVE), 0, 1), "0 0 0 4 0 191102976");
        BallPots x = Tapes.of("groups 3;pot a b c;pot d e f;apart a d;apart b e;");
        s.due("not the first pair", parts(x, 0, 1), "36 144 2 5 -36 648");
    }

    /** The greatest and the sum of what pair() and all() tell of each pair of unlike pots. */
    private void sumByPairs(String text) {
        BallPots x = Tapes.of(text);
        for (int one = 0; one < 3; one++) {
            int other = (one + 1) % 3;
            long most = 0;
            long sum = 0;
            for (int a = 0; a < x.count(2); a++) {
                for (int b = (a / x.count(0) + 1) * x.count(0); b < x.count(2); b++) {
                    long far = Math.abs(x.pair(a, b, one) * x.all(other) - x.pair(a, b, other) * x.all(one));
                    most = Math.max(most, far);
                    sum += far;
                }
            }
            s.due("apart(" + one + ", " + other + ", 0) of " + text, x.apart(one, other, 0), most);
            s.due("apart(" + one + ", " + other + ", 1) of " + text, x.apart(one, other, 1), sum);
        }
    }

    private void nearest() {
        s.says(24, "-2: no DRAW is LAWFUL; NONE: no such what.");
        BallPots none = Tapes.of(NO_DRAW);
        s.due("no draw is lawful: nearest(0)", none.nearest(0), -2);
        s.due("no draw is lawful: nearest(1)", none.nearest(1), -2);
        BallPots x = Tapes.of(TWO);
        s.due("nearest(0)", x.nearest(0), 4);
        s.due("nearest(1)", x.nearest(1), 4);
        for (int what : new int[] {-1, 2, MIN, MAX}) {
            s.due("nearest(" + what + ")", x.nearest(what), -1);
        }
    }

    private void nearestOfSeveral() {
        s.says(24, "The ORDER (what 0), the ARRANGEMENT (1), as bits, for which SKIP and EVEN are least APART, the"
                + " other one being as it is; of several the first places the lesser ones.");
        String[] pots = {"", "pot a b c;", "pot d e f;", "pot g h i;", "pot j k l;"};
        String text = "groups 3;";
        int[] orders = {0, 0, 4, 36, 228};
        for (int n = 0; n <= 4; n++) {
            text += pots[n];
            s.due("all alike, order of " + n, Tapes.of(text).nearest(0), orders[n]);
            s.due("all alike, arrangement of three", Tapes.of(text).nearest(1), 36);
        }
        s.due("all alike, arrangement of two", Tapes.of("groups 2;").nearest(1), 4);
        s.due("all alike, arrangement of four", Tapes.of(TWELVE).nearest(1), 228);
        nearestByTrying("groups 3;pot a b c;pot d e f;pot g h i;never c 0;apart g a;apart f h;");
        nearestByTrying("groups 3;pot a b c;pot d e f;pot g h i;apart b i;never a 2;never g 1;");
        nearestByTrying("groups 4;pot a b c d;pot e f g h;apart a e;never b 0;never f 3;never c 1;never d 2;");
        nearestByTrying("groups 3;pot a b c;pot d e f;fixed c 0;apart e b;");
        nearestByTrying("groups 3;pot a b c;pot d e f;fixed c 1;fixed d 2;apart e b;");
        nearestByTrying("groups 3;pot a b c;pot d e f;never a 0;fixed d 2;apart e b;");
        nearestByTrying("groups 3;pot a b c;pot d e f;fixed e 0;fixed d 1;apart c e;apart a d;");
        nearestByTrying("groups 3;pot a b c;pot d e f;never f 1;fixed e 2;apart c f;apart c f;apart b d;");
        nearestByTrying("groups 4;pot a b c d;pot e f g h;never c 1;fixed b 3;apart b h;");
        nearestByTrying("groups 4;pot a b c d;pot e f g h;fixed a 3;never e 1;apart b f;apart c h;");
        nearestByTrying("groups 4;pot a b c d;pot e f g h;pot i j k l;apart b f;apart c h;apart a l;never a 2;");
    }

    /** The least of all that apart() answers when each is told in turn; those told are rows of lesser first places. */
    private void nearestByTrying(String text) {
        BallPots x = Tapes.of(text);
        int order = x.nearest(0);
        int arrangement = x.nearest(1);
        s.due("order of " + text, order, tried(x, x.count(1), true));
        s.due("arrangement of " + text, arrangement, tried(x, x.count(0), false));
    }

    private static int tried(BallPots x, int n, boolean ofPots) {
        int found = -1;
        long least = Long.MAX_VALUE;
        for (int[] row : Oracle.rowsOf(n)) {
            int bits = bitsOf(row);
            boolean told = ofPots ? x.order(bits) : x.arrange(bits);
            if (told && x.apart(0, 1, 0) < least) {
                least = x.apart(0, 1, 0);
                found = bits;
            }
        }
        int inTurn = bitsOf(Oracle.rowsOf(n).get(0));
        boolean back = ofPots ? x.order(inTurn) : x.arrange(inTurn);
        return back ? found : -1;
    }

    private static int bitsOf(int[] row) {
        int bits = 0;
        for (int k = 0; k < row.length; k++) {
            bits |= row[k] << 2 * k;
        }
        return bits;
    }

    private void leads() {
        s.says(25, "The CODE to which SKIP leads (ORDER, ARRANGEMENT of now) by a row of balls, told as a CODE is:"
                + " POT by POT of the ORDER the RANK of its balls' rows (the first ball's place in the POT, the"
                + " second one's ..). NONE: no such row, no DRAW is LAWFUL.");
        BallPots x = Tapes.of(TWO);
        s.due("the first", x.leads(0), 1);
        s.due("the last", x.leads(3), 2);
        for (int row : new int[] {-1, 4, MIN, MAX}) {
            s.due("leads(" + row + ")", x.leads(row), -1);
        }
        s.due("none is lawful", Tapes.of(NO_DRAW).leads(0), -1);
        s.due("none is lawful, no such row", Tapes.of(NO_DRAW).leads(4), -1);
        s.due("no pots", new BallPots().leads(0), 0);
        s.due("no pots, no such row", new BallPots().leads(1), -1);
        BallPots twelve = Tapes.of(TWELVE);
        s.due("the last of all", twelve.leads(13823), 13823);
        s.due("none behind it", twelve.leads(13824), -1);
        s.due("balls d a b c: 1 2 3 0", twelve.leads(18 * 576), 9 * 576);
        twelve.ball(0);
        s.due("whatever is out", twelve.leads(18 * 576), 9 * 576);
    }
}
