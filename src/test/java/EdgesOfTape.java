import java.util.NoSuchElementException;

/** The boundaries of promises 1 to 5, 33 and 34: a new object, the tape, texts as a whole, what they tell. */
final class EdgesOfTape {
    private static final int MIN = Integer.MIN_VALUE;
    private static final int MAX = Integer.MAX_VALUE;
    private static final int BLANKS = 0x20202020;
    private static final String TWO = "groups 2;pot a b;pot c d;mark m a d;apart a c;";
    private static final String THREE = "groups 3;pot x y z;mark q x;mark r y;never x 0;never y 0;";

    private final Sentences s;

    EdgesOfTape(Sentences s) {
        this.s = s;
    }

    void all() {
        newObject();
        feed();
        fullTape();
        text();
        textBehindText();
        textWithFault();
        textRefused();
        emptyText();
        fault();
        named();
        look();
        count();
    }

    private void asAtFirst(BallPots x) {
        int[] counts = {2, 0, 0, 0, 0, 0, 1};
        for (int what = 0; what < counts.length; what++) {
            s.due("count(" + what + ")", x.count(what), counts[what]);
        }
        s.due("lawful()", x.lawful(), 1);
        s.due("clear()", x.clear(), 0);
        s.due("fault(0)", x.fault(0), 0);
        s.due("fault(1)", x.fault(1), -1);
        s.due("the tape is empty: text(1)", x.text(1), -2);
        s.due("the tape is empty: feed", x.feed(BLANKS, BLANKS, BLANKS, BLANKS, BLANKS), 20);
    }

    private void newObject() {
        s.says(1, "No TEXT (2 GROUPS, no POTS), an empty STAGE, ORDER and ARRANGEMENT 0, 1 .., an empty TAPE.");
        asAtFirst(new BallPots());
        s.due("no ball to go back", new BallPots().undo(), -1);
        s.due("nothing on the tape is an empty text", new BallPots().text(0), 0);
        s.due("NONE", BallPots.NONE, -1);
    }

    /** One byte of twenty is none of the language's, and the fault's place tells which. */
    private void feed() {
        s.says(2, "Twenty bytes come behind the TAPE, four of each number, the highest first: how many it has;");
        for (int at = 0; at < 40; at++) {
            for (int sign : new int[] {'!', 0, 128, 255}) {
                int[] ten = new int[10];
                for (int k = 0; k < 40; k++) {
                    ten[k / 4] = ten[k / 4] << 8 | (k == at ? sign : ' ');
                }
                BallPots x = new BallPots();
                s.due("the first twenty", x.feed(ten[0], ten[1], ten[2], ten[3], ten[4]), 20);
                s.due("twenty more", x.feed(ten[5], ten[6], ten[7], ten[8], ten[9]), 40);
                s.due("sign " + sign + " at " + at, x.text(40), -1);
                s.due("its place", x.fault(1), at);
            }
        }
    }

    private void fullTape() {
        s.says(2, "NONE, and none come, if it would have more than 400.");
        BallPots x = new BallPots();
        for (int k = 1; k <= 20; k++) {
            s.due("feed " + k, x.feed(BLANKS, BLANKS, BLANKS, BLANKS, BLANKS), 20 * k);
        }
        s.due("feed 21", x.feed(-1, -1, -1, -1, -1), -1);
        s.due("feed 22", x.feed(0, 0, 0, 0, 0), -1);
        s.due("there are not 401", x.text(401), -2);
        s.due("it is still full", x.feed(-1, -1, -1, -1, -1), -1);
        s.due("all 400 are as they were", x.text(400), 0);
        s.due("it has room again", x.feed(BLANKS, BLANKS, BLANKS, BLANKS, BLANKS), 20);
        s.due("what was refused is not there", x.text(20), 0);
        String longest = "groups 2;pot a b;" + " ".repeat(383);
        s.due("a text of 400", Tapes.read(x, longest.substring(0, 399) + ";"), -1);
        s.due("its last byte", x.fault(1), 399);
        s.due("a text of 400", Tapes.read(x, "groups 2;" + " ".repeat(383) + "pot a b;"), 2);
    }

    /** Order 1, 0, arrangement 1, 0, and team 2 in group 1. */
    private static BallPots staged() {
        BallPots x = Tapes.of(TWO);
        x.order(1);
        x.arrange(1);
        x.ball(2);
        return x;
    }

    private void text() {
        s.says(3, "The TAPE's first n bytes (it is empty then) are the TEXT (the STAGE is empty, ORDER and"
                + " ARRANGEMENT 0, 1 .. then): how many LINES;");
        BallPots x = staged();
        s.due("the same text again", Tapes.read(x, TWO), 5);
        s.due("balls that are out", x.count(5), 0);
        s.due("placed(2)", x.placed(2), -1);
        s.due("why(0)", x.why(0), -1);
        s.due("not the turn of pot 1", x.ball(2), -1);
        s.due("group 0 first", x.ball(0), 0);
        Tapes.feed(x, "groups 2;groups 3;");
        s.due("just the first nine", x.text(9), 1);
        s.due("the rest is gone", x.text(1), -2);
        s.due("the tape begins anew", x.feed(BLANKS, BLANKS, BLANKS, BLANKS, BLANKS), 20);
        s.due("blanks are no line", x.text(20), 0);
        s.due("one line", Tapes.read(x, "groups 4;"), 1);
        s.due("its groups", x.count(0), 4);
        s.due("four to arrange", x.arrange(0xe4), true);
        BallPots other = Tapes.of(THREE);
        s.due("other names", Tapes.read(other, TWO), 5);
        s.due("an old team", other.named(0, Tapes.letters("x")), -1);
        s.due("an old mark", other.named(1, Tapes.letters("r")), -1);
        s.due("marks of a", other.look(0, 1), 1);
        s.due("marks of b", other.look(1, 1), 0);
        s.due("bars", other.count(4), 1);
        s.due("lawful", other.lawful(), 2);
    }

    /** Nothing that was asked or told by an earlier text is left behind a new one. */
    private void textBehindText() {
        String[] texts = {"", TWO, THREE, "groups 2;pot a b;never a 0;never a 1;", "groups 2;pot a b;pot c d;",
            "groups 3;pot a b c;pot d e f;never a 2;apart d b;",
            "groups 4;pot a b c d;pot e f g h;apart a e;never b 0;fixed f 3;mark m c d g;atmost 1 m;",
            "groups 4;pot a b c d;pot e f g h;never a 3;never e 1;apart c f;apart d h;never c 2;",
            "groups 2;pot a b;pot c d;pot e f;pot g h;apart a c;apart e h;never g 0;"};
        for (String one : texts) {
            for (String other : texts) {
                BallPots x = Tapes.of(one);
                Snapshot.of(x);
                x.ball(0);
                Snapshot.of(x);
                x.ball(1);
                s.due("a text behind another", Tapes.read(x, other) >= 0, true);
                s.due(other + " behind " + one, Snapshot.of(x), Snapshot.of(Tapes.of(other)));
            }
        }
    }

    private void textWithFault() {
        s.says(3, "NONE with a FAULT, all stays;");
        for (String fault : new String[] {"!", "groups 3", THREE + "!", THREE + "pot a b c;pot d e f;pot"}) {
            BallPots x = staged();
            String before = Snapshot.of(x);
            s.due(fault, Tapes.read(x, fault), -1);
            s.due("the tape is empty then", x.text(1), -2);
            s.due("all else stays", Snapshot.of(x), before);
            s.due("the stage", x.placed(2), 1);
            s.due("the order and the arrangement", x.ball(3), 0);
            s.due("the tape begins anew", x.feed(BLANKS, BLANKS, BLANKS, BLANKS, BLANKS), 20);
        }
        s.due("without one nothing stays", Tapes.read(staged(), THREE), 6);
    }

    private void textRefused() {
        s.says(3, "-2, and the TAPE stays: there are not so many, n is below 0.");
        s.due("of none: text(0)", new BallPots().text(0), 0);
        BallPots x = staged();
        Tapes.feed(x, "groups 3;");
        String before = Snapshot.of(x);
        for (int n : new int[] {21, 22, 400, MAX, -1, -20, MIN}) {
            s.due("text(" + n + ") of twenty", x.text(n), -2);
            s.due("all stays", Snapshot.of(x), before);
        }
        s.due("the tape has twenty", x.feed(BLANKS, BLANKS, BLANKS, BLANKS, BLANKS), 40);
        s.due("and twenty more: 41", x.text(41), -2);
        s.due("all of them are there", x.text(40), 1);
        s.due("groups", x.count(0), 3);
        s.due("none are left", x.text(1), -2);
    }

    private void emptyText() {
        s.says(3, "(An empty one: as at first.)");
        BallPots x = staged();
        s.due("text(0), empty tape", x.text(0), 0);
        asAtFirst(x);
        BallPots y = staged();
        Tapes.read(y, "!");
        Tapes.feed(y, THREE);
        s.due("text(0), a tape with a text on it", y.text(0), 0);
        asAtFirst(y);
        BallPots z = Tapes.of(THREE);
        s.due("blanks alone", Tapes.read(z, " \n "), 0);
        asAtFirst(z);
    }

    private void fault() {
        s.says(4, "Of the latest text() that was not -2, what 0: its FAULT (0), 1: its place (NONE without).");
        BallPots x = new BallPots();
        s.due("no text yet", x.fault(0), 0);
        s.due("no text yet", x.fault(1), -1);
        Tapes.read(x, "groups 9;");
        for (int n : new int[] {-1, 1}) {
            s.due("refused", x.text(n), -2);
            s.due("the fault ahead of it", x.fault(0), 2);
            s.due("its place", x.fault(1), 7);
        }
        Tapes.read(x, "!");
        s.due("the latest one", x.fault(0), 1);
        s.due("a place of 0", x.fault(1), 0);
        Tapes.read(x, TWO);
        s.due("a sound one", x.fault(0), 0);
        s.due("a sound one's place", x.fault(1), -1);
        x.text(-1);
        s.due("refused behind it", x.fault(0), 0);
        Tapes.read(x, "groups 2;pot a;");
        x.text(0);
        s.due("an empty one", x.fault(0), 0);
        s.due("an empty one's place", x.fault(1), -1);
        s.says(4, "NONE for another what.");
        BallPots y = new BallPots();
        Tapes.read(y, "groups 9;");
        s.due("what 0", y.fault(0), 2);
        s.due("what 1", y.fault(1), 7);
        for (int what : new int[] {-1, 2, 3, MIN, MAX}) {
            s.due("fault(" + what + ")", y.fault(what), -1);
            s.due("fault(" + what + ") without one", Tapes.of(TWO).fault(what), -1);
        }
    }

    private void named() {
        s.says(5, "The number of a TEAM (what 0), a MARK (1) by its letters, 5 bits each (a is 1; the first one"
                + " highest of six, 0 behind the last one);");
        BallPots x = Tapes.of("groups 2;pot a zzzzzz;pot ab abcdef;mark b a;mark z a;mark zzzzzz a;mark abcdef a;");
        s.due("a", x.named(0, 1 << 25), 0);
        s.due("zzzzzz", x.named(0, 26 * (1 + 32 + 1024 + 32768 + 1048576 + 33554432)), 1);
        s.due("ab", x.named(0, 1 << 25 | 2 << 20), 2);
        s.due("abcdef", x.named(0, 1 << 25 | 2 << 20 | 3 << 15 | 4 << 10 | 5 << 5 | 6), 3);
        s.due("mark b", x.named(1, 2 << 25), 0);
        s.due("mark z", x.named(1, 26 << 25), 1);
        s.due("mark zzzzzz", x.named(1, Tapes.letters("zzzzzz")), 2);
        s.due("mark abcdef", x.named(1, Tapes.letters("abcdef")), 3);
        s.says(5, "NONE: there is none such.");
        s.due("a team", x.named(0, 1 << 25), 0);
        s.due("a mark's name is no team", x.named(0, Tapes.letters("b")), -1);
        s.due("a team's name is no mark", x.named(1, Tapes.letters("a")), -1);
        s.due("abcde", x.named(0, Tapes.letters("abcde")), -1);
        s.due("abcdeg", x.named(0, Tapes.letters("abcdeg")), -1);
        for (int letters : new int[] {0, 1, 1 << 20, 1 << 25 | 1, 1 << 25 | 1 << 30, 1 << 25 | MIN, MIN, MAX, -1}) {
            s.due("named(0, " + letters + ")", x.named(0, letters), -1);
            s.due("named(1, " + letters + ")", x.named(1, letters), -1);
        }
        for (int what : new int[] {-1, 2, MIN, MAX}) {
            s.due("named(" + what + ", a)", x.named(what, 1 << 25), -1);
            s.due("named(" + what + ", b)", x.named(what, 2 << 25), -1);
        }
        s.due("no text", new BallPots().named(0, 1 << 25), -1);
        s.due("no letters, no text", new BallPots().named(0, 0), -1);
        s.due("no letters, no text", new BallPots().named(1, 0), -1);
    }

    /** What look() throws, by its simple name, or what it answers. */
    private static String looked(BallPots x, int team, int what) {
        try {
            return String.valueOf(x.look(team, what));
        } catch (IndexOutOfBoundsException | NoSuchElementException e) {
            return e.getClass().getSimpleName();
        }
    }

    private void look() {
        String noTeam = "IndexOutOfBoundsException";
        String noWhat = "NoSuchElementException";
        BallPots x = Tapes.of(TWO + "mark n d;");
        s.says(33, "Of a TEAM, what 0: its POT, 1: its MARKS (bits).");
        for (int team = 0; team < 4; team++) {
            s.due("pot of " + team, x.look(team, 0), team / 2);
            s.due("marks of " + team, x.look(team, 1), new int[] {1, 0, 0, 3}[team]);
        }
        s.says(33, "IndexOutOfBoundsException: no such TEAM.");
        for (int team : new int[] {-1, 4, 12, MIN, MAX}) {
            s.due("look(" + team + ", 0)", looked(x, team, 0), noTeam);
            s.due("look(" + team + ", 1)", looked(x, team, 1), noTeam);
            s.due("look(" + team + ", 2)", looked(x, team, 2), noTeam);
        }
        s.due("look(0, 0)", looked(x, 0, 0), "0");
        s.due("look(3, 0)", looked(x, 3, 0), "1");
        s.due("look(0, 1)", looked(x, 0, 1), "1");
        s.due("look(2, 1)", looked(x, 2, 1), "0");
        s.due("look(3, 1)", looked(x, 3, 1), "3");
        s.due("no text", looked(new BallPots(), 0, 0), noTeam);
        s.due("the twelfth", looked(Tapes.of("groups 4;pot a b c d;pot e f g h;pot i j k l;"), 11, 0), "2");
        s.due("no thirteenth", looked(Tapes.of("groups 4;pot a b c d;pot e f g h;pot i j k l;"), 12, 0), noTeam);
        s.says(33, "NoSuchElementException: no such what.");
        for (int what : new int[] {-1, 2, MIN, MAX}) {
            s.due("look(0, " + what + ")", looked(x, 0, what), noWhat);
            s.due("look(3, " + what + ")", looked(x, 3, what), noWhat);
        }
        s.due("look(1, 0)", looked(x, 1, 0), "0");
        s.due("look(1, 1)", looked(x, 1, 1), "0");
    }

    private void count() {
        s.says(34, "0 GROUPS, 1 POTS, 2 TEAMS, 3 MARKS, 4 BARS, 5 balls that are out, 6 DRAWS in all.");
        BallPots x = Tapes.of(THREE);
        x.ball(1);
        x.ball(2);
        int[] counts = {3, 1, 3, 2, 2, 2, 6};
        for (int what = 0; what < counts.length; what++) {
            s.due("count(" + what + ")", x.count(what), counts[what]);
        }
        BallPots y = staged();
        int[] others = {2, 2, 4, 1, 1, 1, 4};
        for (int what = 0; what < others.length; what++) {
            s.due("count(" + what + ")", y.count(what), others[what]);
        }
        int[] draws = {1, 4, 16, 1, 36, 1296, 1, 24, 13824};
        String[] texts = {"groups 2;", "groups 2;pot a b;pot c d;", "groups 2;pot a b;pot c d;pot e f;pot g h;",
            "groups 3;", "groups 3;pot a b c;pot d e f;", "groups 3;pot a b c;pot d e f;pot g h i;pot j k l;",
            "groups 4;", "groups 4;pot a b c d;", "groups 4;pot a b c d;pot e f g h;pot i j k l;"};
        for (int k = 0; k < draws.length; k++) {
            s.due("draws in all of " + texts[k], Tapes.of(texts[k]).count(6), draws[k]);
        }
        s.says(34, "NONE for another what.");
        s.due("count(6)", x.count(6), 6);
        for (int what : new int[] {-1, 7, MIN, MAX}) {
            s.due("count(" + what + ")", x.count(what), -1);
        }
    }
}
