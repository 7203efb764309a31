/** The boundaries of the stage, the order and the arrangement: promises 11 to 19. */
final class EdgesOfStage {
    private static final int MIN = Integer.MIN_VALUE;
    private static final int MAX = Integer.MAX_VALUE;
    private static final String TWO = "groups 2;pot a b;pot c d;apart a c;";
    private static final String THREE = "groups 3;pot a b c;pot d e f;apart a d;never e 2;";
    private static final String TWELVE = "groups 4;pot a b c d;pot e f g h;pot i j k l;";
    private static final String NO_DRAW = "groups 2;pot a b;never a 0;never a 1;never b 0;";

    private final Sentences s;

    EdgesOfStage(Sentences s) {
        this.s = s;
    }

    void all() {
        turns();
        open();
        order();
        orderOnStage();
        ball();
        why();
        clear();
        placed();
        arrange();
        undo();
        ends();
        blame();
        fewestToBlame();
        refused();
    }

    /** The groups of balls that come one behind the other. */
    private static String balls(BallPots x, int... teams) {
        StringBuilder groups = new StringBuilder();
        for (int team : teams) {
            groups.append(x.ball(team));
        }
        return groups.toString();
    }

    private void turns() {
        s.says(Sentences.TERMS, "==== 3. POTS come in an ORDER (0, 1 .. at first; or as told), GROUPS are looked at"
                + " in an ARRANGEMENT (0, 1 .. at first; or as told).");
        BallPots x = Tapes.of(TWELVE);
        s.due("at first pot 0, group 0", balls(x, 4, 8, 3, 2, 1, 0), "-1-10123");
        s.due("then pot 1, group 0", balls(x, 8, 7, 4, 5, 6), "-10123");
        s.due("then pot 2", balls(x, 8, 9, 10, 11), "0123");
        x.order(2 | 0 << 2 | 1 << 4);
        x.arrange(3 | 1 << 2 | 0 << 4 | 2 << 6);
        s.due("as told: pot 2, group 3", balls(x, 0, 4, 8, 9, 10, 11), "-1-13102");
        s.due("then pot 0, then 1", balls(x, 4, 0, 1, 2, 3, 4), "-131023");
    }

    private void open() {
        s.says(Sentences.TERMS, "OPEN for a ball are GROUPS that have none of its POT yet and with which some"
                + " LAWFUL DRAW still is that gives all those that are placed their GROUPS.");
        s.due("a may not be in 0", balls(Tapes.of("groups 2;pot a b;never a 0;"), 0, 1), "10");
        s.due("b must leave 0 to a", balls(Tapes.of("groups 2;pot a b;fixed a 0;"), 1, 0), "10");
        s.due("two ahead: c may be in 1 alone", balls(Tapes.of("groups 3;pot a b c;never c 0;never c 2;"), 0, 1, 2),
                "021");
        s.due("a pot ahead: a would leave c none",
                balls(Tapes.of("groups 2;pot a b;pot c d;apart a c;fixed c 0;"), 0, 1), "10");
        s.due("no bar: the first that is empty", balls(Tapes.of("groups 2;pot a b;"), 1, 0), "01");
    }

    private void order() {
        s.says(11, "ORDER of POTS, two bits each, the first one lowest (bits beyond aren't looked at);");
        String[] texts = {"groups 2;", "groups 2;pot a b;", "groups 2;pot a b;pot c d;",
            "groups 2;pot a b;pot c d;pot e f;", "groups 2;pot a b;pot c d;pot e f;pot g h;"};
        for (int n = 0; n < texts.length; n++) {
            BallPots x = Tapes.of(texts[n]);
            int beyond = -1 << 2 * n;
            for (int bits = 0; bits < 1 << 2 * n; bits++) {
                boolean due = isEachOnce(bits, n);
                s.due("order(" + bits + ") of " + n, x.order(bits), due);
                s.due("order(" + bits + ") of " + n + ", bits beyond", x.order(bits | beyond), due);
                if (due && n > 0) {
                    int first = bits & 3;
                    s.due("the first is " + first, x.ball(2 * first), 0);
                    x.ball(2 * first + 1);
                    s.due("the last comes behind", n > 1 && x.ball(2 * (bits >> 2 * n - 2)) == 0, n == 2);
                }
            }
        }
        s.due("of none", new BallPots().order(MIN), true);
    }

    private static boolean isEachOnce(int bits, int n) {
        String seen = "";
        for (int k = 0; k < n; k++) {
            int pot = bits >> 2 * k & 3;
            if (pot >= n || seen.contains("" + pot)) {
                return false;
            }
            seen += pot;
        }
        return true;
    }

    private void orderOnStage() {
        s.says(11, "the STAGE is empty then: true; false: not each POT once.");
        BallPots x = Tapes.of(TWO);
        x.order(1);
        x.ball(2);
        for (int bits : new int[] {0, 5, 2, 3, 6, 9}) {
            s.due("order(" + bits + ")", x.order(bits), false);
            s.due("the stage is as it was", x.placed(2), 0);
            s.due("balls that are out", x.count(5), 1);
        }
        s.due("the order is as it was: pot 1 goes on", x.ball(3), 1);
        s.due("the same order again", x.order(1), true);
        s.due("the stage is empty", x.clear(), 0);
        s.due("placed(2)", x.placed(2), -1);
        s.due("pot 1 is first", x.ball(0), -1);
        s.due("another order", x.order(4), true);
        s.due("pot 0 is first", x.ball(0), 0);
        String text = "groups 3;pot a b c;pot d e f;pot g h i;never c 0;apart g a;apart f h;";
        toldAnew(text, new int[] {36, 18, 24, 9}, true);
    }

    /** Whatever was asked and out before, all is as if this order or arrangement were told a new object. */
    private void toldAnew(String text, int[] rows, boolean ofPots) {
        BallPots x = Tapes.of(text);
        for (int bits : rows) {
            Snapshot.of(x);
            for (int team = 0; team < x.count(2); team++) {
                x.ball(team);
            }
            Snapshot.of(x);
            BallPots y = Tapes.of(text);
            s.due("told anew", ofPots ? x.order(bits) : x.arrange(bits), true);
            s.due("told at first", ofPots ? y.order(bits) : y.arrange(bits), true);
            s.due("all by " + bits, Snapshot.of(x), Snapshot.of(y));
            x.nearest(ofPots ? 0 : 1);
        }
    }

    private void ball() {
        s.says(12, "On the STAGE a TEAM's ball comes: its GROUP; NONE: no such TEAM, its ball is out, it isn't of"
                + " the POT whose turn it is, or no DRAW is LAWFUL.");
        BallPots x = Tapes.of(TWO);
        for (int team : new int[] {-1, 4, 12, MIN, MAX}) {
            s.due("ball(" + team + ")", x.ball(team), -1);
        }
        s.due("not its turn", x.ball(2), -1);
        s.due("not its turn", x.ball(3), -1);
        s.due("none is out", x.count(5), 0);
        s.due("b", x.ball(1), 0);
        s.due("it is out", x.ball(1), -1);
        s.due("the pot is not through", x.ball(2), -1);
        s.due("a", x.ball(0), 1);
        s.due("the pot is through", x.ball(0), -1);
        s.due("three are not out", x.count(5), 2);
        s.due("d", x.ball(3), 1);
        s.due("c", x.ball(2), 0);
        for (int team = 0; team < 5; team++) {
            s.due("all are out: ball(" + team + ")", x.ball(team), -1);
        }
        s.due("all are out", x.count(5), 4);
        s.due("no draw is lawful", Tapes.of(NO_DRAW).ball(0), -1);
        s.due("no draw is lawful", Tapes.of(NO_DRAW).ball(1), -1);
        s.due("no team", new BallPots().ball(0), -1);
        s.due("no pot", Tapes.of("groups 4;").ball(0), -1);
    }

    private void why() {
        s.says(13, "Of the latest ball that is out, why it is not in a GROUP: 0 it is, 3 it is behind the one it"
                + " got by the ARRANGEMENT, else 1 that GROUP had a TEAM of the POT, 2 no LAWFUL DRAW would be.");
        BallPots x = Tapes.of("groups 3;pot a b c;never a 0;never a 1;never b 1;");
        s.due("a", x.ball(0), 2);
        s.due("neither may be: 2, 2, 0", reasons(x), "220");
        s.due("c may not be in 0: b must", x.ball(2), 1);
        s.due("2 is full, but behind: 2, 0, 3", reasons(x), "203");
        s.due("b", x.ball(1), 0);
        s.due("all behind are 3", reasons(x), "033");
        BallPots y = Tapes.of("groups 3;pot a b c;never b 0;never c 0;");
        y.ball(0);
        s.due("b, not in 0, which is full, too", y.ball(1), 1);
        s.due("full comes first: 1, 0, 3", reasons(y), "103");
        BallPots z = Tapes.of(TWELVE);
        z.arrange(3 | 1 << 2 | 0 << 4 | 2 << 6);
        s.due("3, then 1", balls(z, 0, 1), "31");
        s.due("by the arrangement: 3, 0, 3, 1", reasons(z), "3031");
        s.due("a new pot", balls(z, 2, 3, 4), "023");
        s.due("the old pot's groups are not full: 3, 3, 3, 0", reasons(z), "3330");
        BallPots other = Tapes.of(TWO);
        other.order(1);
        s.due("c, d, then a, not with c", balls(other, 2, 3, 0), "011");
        s.due("a team of another pot does not fill 0: 2, 0", reasons(other), "20");
        s.says(13, "NONE: no ball is out, no such GROUP.");
        for (int group : new int[] {-1, 4, MIN, MAX}) {
            s.due("why(" + group + ")", z.why(group), -1);
        }
        s.due("a third of two", staged().why(2), -1);
        s.due("a second of two", staged().why(1), 3);
        z.clear();
        for (int group = -1; group < 5; group++) {
            s.due("none is out: why(" + group + ")", z.why(group), -1);
        }
        s.due("without a text", new BallPots().why(0), -1);
    }

    private static BallPots staged() {
        BallPots x = Tapes.of(TWO);
        x.ball(0);
        return x;
    }

    private static String reasons(BallPots x) {
        StringBuilder all = new StringBuilder();
        for (int group = 0; group < x.count(0); group++) {
            all.append(x.why(group));
        }
        return all.toString();
    }

    private void clear() {
        s.says(14, "The STAGE is empty: how many balls were out.");
        BallPots x = Tapes.of(TWELVE);
        s.due("none", x.clear(), 0);
        for (int out = 1; out <= 12; out++) {
            for (int team = 0; team < out; team++) {
                x.ball(team);
            }
            s.due(out + " were out", x.clear(), out);
            s.due("none is", x.count(5), 0);
            s.due("the first is back", x.placed(0), -1);
            s.due("the last is back", x.placed(out - 1), -1);
        }
        s.due("none once more", x.clear(), 0);
        x.order(1 | 2 << 2 | 0 << 4);
        x.arrange(1 | 0 << 2 | 2 << 4 | 3 << 6);
        x.clear();
        s.due("the order and the arrangement stay", balls(x, 0, 4, 5), "-110");
        BallPots y = Tapes.of(THREE);
        String before = Snapshot.of(y);
        balls(y, 2, 0, 1, 5);
        s.due("all has changed", Snapshot.of(y).equals(before), false);
        s.due("four were out", y.clear(), 4);
        s.due("all is as it was", Snapshot.of(y), before);
    }

    private void placed() {
        s.says(15, "The GROUP of a TEAM on the STAGE; NONE: it isn't out, no such TEAM.");
        BallPots x = Tapes.of(TWO);
        s.due("it isn't out", x.placed(1), -1);
        x.ball(1);
        s.due("it is", x.placed(1), 0);
        s.due("another isn't", x.placed(0), -1);
        for (int team : new int[] {-1, 4, 12, MIN, MAX}) {
            s.due("placed(" + team + ")", x.placed(team), -1);
        }
        s.due("all come", balls(x, 0, 2, 3), "101");
        s.due("the last team", x.placed(3), 1);
        s.due("without a text", new BallPots().placed(0), -1);
    }

    private void arrange() {
        s.says(16, "ARRANGEMENT of GROUPS likewise (of four GROUPS the last one highest);");
        String[] pots = {"", "", "a b", "a b c", "a b c d"};
        for (int n = 2; n <= 4; n++) {
            BallPots x = Tapes.of("groups " + n + ";pot " + pots[n] + ";");
            int beyond = -1 << 2 * n;
            for (int bits = 0; bits < 1 << 2 * n; bits++) {
                boolean due = isEachOnce(bits, n);
                s.due("arrange(" + bits + ") of " + n, x.arrange(bits), due);
                s.due("arrange(" + bits + ") of " + n + ", bits beyond", x.arrange(bits | beyond), due);
                for (int team = 0; due && team < n; team++) {
                    s.due("ball(" + team + ") by " + bits, x.ball(team), bits >> 2 * team & 3);
                }
            }
        }
        s.says(16, "the STAGE is empty then: true; false: not each GROUP once.");
        BallPots x = Tapes.of(TWO);
        x.arrange(1);
        x.ball(0);
        for (int bits : new int[] {0, 5, 2, 3, 6, 9}) {
            s.due("arrange(" + bits + ")", x.arrange(bits), false);
            s.due("the stage is as it was", x.placed(0), 1);
            s.due("balls that are out", x.count(5), 1);
        }
        s.due("why, by the arrangement as it was", x.why(0), 3);
        s.due("the same again", x.arrange(1), true);
        s.due("the stage is empty", x.clear(), 0);
        s.due("group 1 is first", x.ball(0), 1);
        s.due("another", x.arrange(4), true);
        s.due("group 0 is first", x.ball(0), 0);
        s.due("no pots", new BallPots().arrange(1), true);
        s.due("no pots, a group twice", new BallPots().arrange(0), false);
        String text = "groups 3;pot a b c;pot d e f;pot g h i;never c 0;apart g a;apart f h;";
        toldAnew(text, new int[] {36, 18, 33, 9}, false);
    }

    private void undo() {
        s.says(17, "The latest ball goes back: how many are out; NONE: none is.");
        BallPots x = Tapes.of(THREE);
        s.due("none is out", x.undo(), -1);
        s.due("and none is", x.count(5), 0);
        String[] seen = new String[7];
        seen[0] = Snapshot.of(x);
        int[] teams = {2, 0, 1, 5, 3, 4};
        for (int k = 0; k < 6; k++) {
            x.ball(teams[k]);
            seen[k + 1] = Snapshot.of(x);
        }
        for (int k = 5; k >= 0; k--) {
            s.due("undo()", x.undo(), k);
            s.due("all is as it was with " + k, Snapshot.of(x), seen[k]);
            s.due("it is back", x.placed(teams[k]), -1);
        }
        s.due("none is left", x.undo(), -1);
        s.due("without a text", new BallPots().undo(), -1);
        s.due("another may come", balls(x, 1, 0), "01");
    }

    private void ends() {
        s.says(18, "The GROUP of a TEAM in the LAWFUL DRAW of the least CODE that has all those placed where they"
                + " are; NONE: there is none such, no such TEAM.");
        BallPots x = Tapes.of(TWO);
        s.due("an empty stage: the least code", "" + x.ends(0) + x.ends(1) + x.ends(2) + x.ends(3), "0110");
        x.ball(1);
        s.due("b in 0", "" + x.ends(0) + x.ends(1) + x.ends(2) + x.ends(3), "1001");
        for (int team : new int[] {-1, 4, 12, MIN, MAX}) {
            s.due("ends(" + team + ")", x.ends(team), -1);
        }
        balls(x, 0, 2, 3);
        s.due("all are out", "" + x.ends(0) + x.ends(1) + x.ends(2) + x.ends(3), "1001");
        s.due("none is lawful", Tapes.of(NO_DRAW).ends(0), -1);
        s.due("no team", new BallPots().ends(0), -1);
        BallPots y = Tapes.of(TWELVE);
        y.order(2 | 0 << 2 | 1 << 4);
        y.ball(11);
        s.due("l in 0: the others of its pot 1, 2, 3", "" + y.ends(8) + y.ends(9) + y.ends(10) + y.ends(11), "1230");
        s.due("all others by the least code", "" + y.ends(0) + y.ends(7), "03");
    }

    private void blame() {
        s.says(19, "BLAME (bits); NONE: why() doesn't tell 2 of that GROUP.");
        BallPots x = Tapes.of("groups 3;pot a b c;never a 0;never a 1;never b 1;");
        s.due("no ball is out", x.blame(0), -1);
        x.ball(0);
        s.due("2: never a 0", x.blame(0), 1);
        BallPots first = Tapes.of("groups 2;pot a b;never a 0;");
        first.ball(0);
        s.due("just the first code would be", first.blame(0), 1);
        BallPots last = Tapes.of("groups 2;pot a b;never a 1;");
        last.arrange(1);
        last.ball(0);
        s.due("just the last code would be", last.blame(1), 1);
        s.due("2: never a 1", x.blame(1), 2);
        s.due("0", x.blame(2), -1);
        for (int group : new int[] {-1, 3, MIN, MAX}) {
            s.due("blame(" + group + ")", x.blame(group), -1);
        }
        x.ball(2);
        s.due("2: b must not be in 1", x.blame(0), 4);
        s.due("0", x.blame(1), -1);
        s.due("3", x.blame(2), -1);
        x.clear();
        x.arrange(2 | 0 << 2 | 1 << 4);
        balls(x, 0, 1);
        s.due("1, full", x.blame(2), -1);
        x.undo();
        s.due("behind by the arrangement", x.blame(0), -1);
        s.due("without a text", new BallPots().blame(0), -1);
    }

    private void fewestToBlame() {
        s.says(Sentences.TERMS, "BLAME for a GROUP in which the latest ball's TEAM is not since no LAWFUL DRAW"
                + " would be: the fewest BARS such that no DRAW in which all those placed ahead are where they are,"
                + " and it is there, keeps them all; of several the least bits.");
        BallPots x = Tapes.of("groups 3;pot a b c;never c 0;fixed a 2;fixed b 0;apart a b;");
        s.due("c", x.ball(2), 1);
        s.due("never c 0 and fixed b 0 each will do: the lesser", x.blame(0), 1);
        BallPots y = Tapes.of("groups 3;pot a b c;fixed b 0;never c 0;");
        s.due("c", y.ball(2), 1);
        s.due("the other one is the lesser now", y.blame(0), 1);
        BallPots two = Tapes.of("groups 3;pot a b c;never a 1;never a 2;never b 1;");
        s.due("b not in 0: a must be there", two.ball(1), 2);
        s.due("two together", two.blame(0), 3);
        BallPots one = Tapes.of("groups 3;pot a b c;never a 1;never a 2;fixed b 2;");
        s.due("b in 2", one.ball(1), 2);
        s.due("the third alone, though two are lesser", one.blame(0), 4);
        BallPots ahead = Tapes.of("groups 2;pot a b;pot c d;pot e f;apart a e;apart c f;apart a c;");
        s.due("a in 0, c in 1: the ball of f", balls(ahead, 0, 1, 2, 3, 5), "01100");
        ahead.undo();
        s.due("the ball of e", ahead.ball(4), 1);
        s.due("a is placed ahead: one bar", ahead.blame(0), 1);
        ahead.clear();
        balls(ahead, 1, 0);
        s.due("the ball of c", ahead.ball(2), 0);
        s.due("nothing to blame behind it", ahead.blame(1), -1);
        blameByTexts("groups 3;pot a b c;pot d e f;apart a d;apart b d;never e 2;fixed c 1;", 0, 1, 2, 3, 4, 5);
        blameByTexts("groups 3;pot a b c;pot d e f;apart a d;never d 1;never e 2;never f 0;", 2, 1, 0, 5, 3, 4);
        blameByTexts("groups 4;pot a b c d;never a 0;never a 1;never b 0;never b 1;never c 3;", 2, 3, 1, 0);
    }

    /** The fewest bars of a text that let none, if those placed are fixed by bars of their own. */
    private void blameByTexts(String text, int... teams) {
        BallPots x = Tapes.of(text);
        StringBuilder fixed = new StringBuilder();
        for (int team : teams) {
            int got = x.ball(team);
            for (int group = 0; group < x.count(0); group++) {
                int due = -1;
                if (x.why(group) == 2) {
                    due = EdgesOfDraws.fewest(text, fixed + "fixed " + (char) ('a' + team) + " " + group + ";");
                }
                s.due("blame(" + group + ") of " + team + ", " + text, x.blame(group), due);
            }
            fixed.append("fixed ").append((char) ('a' + team)).append(' ').append(got).append(';');
        }
    }

    /** Each call that is refused leaves all that the object answers as it was. */
    private void refused() {
        s.says(12, "NONE: no such TEAM, its ball is out, it isn't of the POT whose turn it is, or no DRAW is"
                + " LAWFUL.");
        BallPots x = Tapes.of(THREE);
        x.order(1);
        x.arrange(1 | 2 << 2);
        x.ball(3);
        x.ball(4);
        String before = Snapshot.of(x);
        for (int bad : new int[] {-1, 0, 3, 4, 6, MIN, MAX}) {
            s.due("ball(" + bad + ")", x.ball(bad), -1);
            s.due("all stays", Snapshot.of(x), before);
        }
        for (int bad : new int[] {0, 5, 15}) {
            s.due("order(" + bad + ")", x.order(bad), false);
            s.due("arrange(" + bad + ")", x.arrange(bad), false);
            s.due("all stays", Snapshot.of(x), before);
        }
        BallPots none = Tapes.of(NO_DRAW);
        String asItIs = Snapshot.of(none);
        s.due("no draw is lawful", none.ball(0), -1);
        s.due("nothing goes back", none.undo(), -1);
        s.due("all stays", Snapshot.of(none), asItIs);
        s.due("an order is told all the same", none.order(0), true);
        s.due("an arrangement is told all the same", none.arrange(1), true);
    }
}
