import java.util.NoSuchElementException;

/** Each promise by written answers: ordinary inputs, the edges that the document names, wrong inputs. */
final class PromisesTest {
    /** Lawful are just codes 1 (a and d in group 0) and 2 (b and c in group 0). */
    private static final String TWO = "groups 2;pot a b;pot c d;apart a c;";
    /** Teams a 0, b 1, c 2, d 3, e 4, f 5. */
    private static final String THREE = "groups 3;pot a b c;pot d e f;apart a d;never e 2;";
    /** a has no group; a and b have no group 0. */
    private static final String NO_DRAW = "groups 2;pot a b;never a 0;never a 1;never b 0;";
    private static final String FOUR = "groups 4;pot a b c d;pot e f g h;pot i j k l;";
    private static final long NO = Long.MIN_VALUE;

    private static int wrong;
    private static int checks;

    private PromisesTest() {
    }

    private static void due(int promise, String call, long got, long want) {
        checks++;
        if (got != want) {
            wrong++;
            System.out.println("promise " + promise + ": " + call + " answered " + got + ", due is " + want);
        }
    }

    private static void due(int promise, String call, boolean got, boolean want) {
        due(promise, call, got ? 1 : 0, want ? 1 : 0);
    }

    private static void feed(BallPots x, String text) {
        Tapes.feed(x, text);
    }

    private static int read(BallPots x, String text) {
        return Tapes.read(x, text);
    }

    private static BallPots of(String text) {
        return Tapes.of(text);
    }

    public static void main(String[] args) {
        promise1();
        promise2();
        promise3();
        promise4AndFaults();
        promise5();
        promises6And7();
        promise8();
        promises9And10();
        promise11();
        promises12To17();
        promise16();
        promise18();
        promise19();
        promises20To22();
        promisesByStage();
        promise23();
        promise24();
        promise25();
        promise26();
        promise27();
        promise28();
        promises29And30();
        promise31();
        promise32();
        promise33();
        promise34();
        System.out.println(checks + " answers of promises, " + wrong + " are not as due");
        System.exit(wrong == 0 ? 0 : 1);
    }

    private static void promise1() {
        BallPots x = new BallPots();
        due(1, "groups", x.count(0), 2);
        due(1, "pots", x.count(1), 0);
        due(1, "draws", x.count(6), 1);
        due(1, "lawful()", x.lawful(), 1);
        due(1, "judge(0)", x.judge(0), 1);
        due(1, "balls", x.count(5), 0);
        due(1, "nearest(1)", x.nearest(1), 4);
        due(1, "text(1) of an empty tape", x.text(1), -2);
        due(1, "fault(0)", x.fault(0), 0);
        due(1, "fault(1)", x.fault(1), -1);
        due(1, "NONE", BallPots.NONE, -1);
    }

    private static void promise2() {
        BallPots x = new BallPots();
        for (int k = 1; k <= 20; k++) {
            due(2, "feed " + k, x.feed(0x20202020, 0x0a0a0a0a, 0x20202020, 0x20202020, 0x20202020), 20 * k);
        }
        due(2, "a feed beyond 400", x.feed(1, 2, 3, 4, 5), -1);
        due(2, "400 are still there", x.text(401), -2);
        due(2, "400 blanks", x.text(400), 0);
        due(2, "feed behind an empty tape", x.feed(0, 0, 0, 0, 0), 20);
        x.text(0);
        x.feed(-1, 0, 0, 0, 0);
        due(2, "a byte of 255 is no token", x.text(1), -1);
        due(2, "at 0", x.fault(1), 0);
        x.feed(0x67726f75, 0x70732033, 0x3b0a2020, 0x20202020, 0x20202080);
        due(2, "groups 3; with the last byte left out", x.text(19), 1);
        due(2, "3 groups", x.count(0), 3);
        x.feed(0x67726f75, 0x70732033, 0x3b0a2020, 0x20202020, 0x20202080);
        due(2, "with the last byte", x.text(20), -1);
        due(2, "at the last byte", x.fault(1), 19);
    }

    private static void promise3() {
        BallPots x = of(TWO);
        due(3, "lines", read(x, TWO), 4);
        x.ball(0);
        x.order(1);
        x.ball(2);
        due(3, "text below 0", x.text(-1), -2);
        feed(x, "groups 3;");
        due(3, "more than there are", x.text(21), -2);
        due(3, "the tape stayed", x.text(9), 1);
        due(3, "groups", x.count(0), 3);
        due(3, "teams", x.count(2), 0);
        due(3, "the stage is empty", x.count(5), 0);
        due(3, "order is as at first", x.order(0), true);
        feed(x, "groups 2;groups 3;");
        due(3, "just the first nine", x.text(9), 1);
        due(3, "the tape is empty then", x.text(1), -2);
        read(x, TWO);
        x.arrange(1);
        x.order(1);
        x.ball(2);
        due(3, "a fault", read(x, "groups 3;pot"), -1);
        due(3, "the tape is empty then", x.text(1), -2);
        due(3, "the text stays", x.count(6), 4);
        due(3, "the stage stays", x.placed(2), 1);
        due(3, "the order stays", x.ball(3), 0);
        due(3, "an empty one", x.text(0), 0);
        due(3, "groups as at first", x.count(0), 2);
        due(3, "pots as at first", x.count(1), 0);
        due(3, "a line is cut anywhere", read(x, "groups\n2;pot a\n b;\n\npot c d ; "), 3);
        due(3, "words and numbers in a row", read(x, "groups02;pot a b;never a0;fixed b000;"), 4);
        due(3, "lawful", x.lawful(), 1);
        due(3, "teams and marks have names of their own", read(x, "groups 2;pot a b;mark a b;atmost 1 a;"), 4);
    }

    private static void fault(String text, int kind, int place) {
        BallPots x = new BallPots();
        due(4, text, read(x, text), -1);
        due(4, "its fault: " + text, x.fault(0), kind);
        due(4, "its place: " + text, x.fault(1), place);
    }

    private static void promise4AndFaults() {
        BallPots x = of(TWO);
        due(4, "fault(0) without", x.fault(0), 0);
        due(4, "fault(1) without", x.fault(1), -1);
        due(4, "fault(2)", x.fault(2), -1);
        due(4, "fault(-1)", x.fault(-1), -1);
        read(x, "groups 9;");
        x.text(99);
        due(4, "fault(0) stays with -2", x.fault(0), 2);
        due(4, "fault(1) stays with -2", x.fault(1), 7);
        x.text(0);
        due(4, "fault(0) of an empty one", x.fault(0), 0);
        faultsThatCantStand();
        faultsOfTooMuch();
        faultsOfTelling();
    }

    private static void faultsThatCantStand() {
        fault(";", 1, 0);
        fault("  pot a b;", 1, 2);
        fault("group 2;", 1, 0);
        fault("groupss 2;", 1, 0);
        fault("Groups 2;", 1, 0);
        fault("groups", 1, 6);
        fault("groups   ", 1, 9);
        fault("groups;", 1, 6);
        fault("groups 2", 1, 8);
        fault("groups 2 3;", 1, 9);
        fault("groups 2;;", 1, 9);
        fault("groups 2;2;", 1, 9);
        fault("groups 2;a b;", 1, 9);
        fault("groups 2;pot a never;", 1, 15);
        fault("groups 2;pot a b abcdefg;", 1, 17);
        fault("groups 2;pot a 1;", 1, 15);
        fault("groups 2;pot;", 1, 12);
        fault("groups 2;pot a\tb;", 1, 14);
        fault("groups 2;pot a b;mark;", 1, 21);
        fault("groups 2;pot a b;mark x;", 1, 23);
        fault("groups 2;pot a b;mark pot a;", 1, 22);
        fault("groups 2;pot a b;mark x a", 1, 25);
        fault("groups 2;pot a b;apart a;", 1, 24);
        fault("groups 2;pot a b;apart a b a;", 1, 27);
        fault("groups 2;pot a b;never 1 a;", 1, 23);
        fault("groups 2;pot a b;never a b;", 1, 25);
        fault("groups 2;pot a b;atmost a 1;", 1, 24);
    }

    private static void faultsOfTooMuch() {
        String pots = "groups 2;pot a b;pot c d;pot e f;pot g h;";
        fault("groups 1;", 2, 7);
        fault("groups 5;", 2, 7);
        fault("groups 99999999999999999999;", 2, 7);
        fault(pots + "pot a;", 2, 41);
        fault(FOUR + "pot a;", 2, 45);
        due(4, "four pots", read(new BallPots(), pots), 5);
        due(4, "four pots of three", read(new BallPots(), "groups 3;pot a b c;pot d e f;pot g h i;pot j k l;"), 5);
        fault("groups 2;pot a b a;", 2, 17);
        fault("groups 2;pot a b;mark q a;mark r a;mark s a;mark t a;mark u a;mark v a;mark q;", 2, 71);
        String bars = "groups 2;pot a b;mark m a;";
        for (int k = 0; k < 10; k++) {
            bars += "never a 1;";
        }
        due(4, "ten bars", read(new BallPots(), bars), 13);
        fault(bars + "apart a a;", 2, 126);
        fault(bars + "atmost 1 m;", 2, 126);
        fault(bars + "fixed;", 2, 126);
        fault("groups 2;pot a b;mark m a;atmost 0 m;", 2, 33);
        fault("groups 2;pot a b;mark m a;atmost 4 m;", 2, 33);
        fault("groups 3;pot a b c;never a 3;", 2, 27);
        fault("groups 3;pot a b c;fixed a 10;", 2, 27);
    }

    private static void faultsOfTelling() {
        fault("groups 2;groups;", 3, 9);
        fault("groups 2;pot a a;", 3, 15);
        fault("groups 2;pot a b;pot c a;", 3, 23);
        fault("groups 2;pot a b;mark m a a;", 3, 26);
        fault("groups 2;pot a b;mark m a;mark m b;", 3, 31);
        fault("groups 2;pot a b;apart b b;", 3, 25);
        fault("groups 2;mark m a;pot a b;", 4, 16);
        fault("groups 2;pot a b;atmost 1 a;", 4, 26);
        fault("groups 2;pot a b;apart a c;", 4, 25);
        fault("groups 2;pot a b;never c 0;", 4, 23);
        fault("groups 2;pot a b;mark m b;fixed m 0;", 4, 32);
        fault("groups 3;pot a b;", 5, 16);
        fault("groups 2;pot a ; ;", 5, 15);
    }

    private static void promise5() {
        BallPots x = of("groups 2;pot a zzzzzz;pot ab b;mark b a;mark abcdef b;");
        due(5, "a", x.named(0, 1 << 25), 0);
        due(5, "zzzzzz", x.named(0, Tapes.letters("zzzzzz")), 1);
        due(5, "ab", x.named(0, 1 << 25 | 2 << 20), 2);
        due(5, "b", x.named(0, Tapes.letters("b")), 3);
        due(5, "mark b", x.named(1, Tapes.letters("b")), 0);
        due(5, "mark abcdef", x.named(1, Tapes.letters("abcdef")), 1);
        due(5, "no such team", x.named(0, Tapes.letters("abcdef")), -1);
        due(5, "no such mark", x.named(1, Tapes.letters("a")), -1);
        due(5, "no letters", x.named(0, 0), -1);
        due(5, "letters at the end", x.named(0, 1), -1);
        due(5, "a bit beyond", x.named(0, 1 << 25 | 1 << 30), -1);
        due(5, "what 2", x.named(2, 1 << 25), -1);
        due(5, "what -1", x.named(-1, 1 << 25), -1);
    }

    private static void promises6And7() {
        due(6, "no bars", of(FOUR).lawful(), 13824);
        BallPots x = of(THREE);
        due(6, "lawful()", x.lawful(), 16);
        due(7, "without(0)", x.without(0), 24);
        due(7, "without(1)", x.without(1), 24);
        due(7, "without(2)", x.without(2), -1);
        due(7, "without(-1)", x.without(-1), -1);
        due(6, "none", of(NO_DRAW).lawful(), 0);
        due(7, "none without(0)", of(NO_DRAW).without(0), 1);
        due(7, "none without(2)", of(NO_DRAW).without(2), 0);
        due(6, "apart in one pot", of("groups 2;pot a b;apart a b;").lawful(), 2);
        due(6, "atmost 1 of three in two groups",
                of("groups 2;pot a b;pot c d;mark m a b c;atmost 1 m;").lawful(), 0);
        due(6, "atmost 2", of("groups 2;pot a b;pot c d;pot e f;mark m a c e;atmost 2 m;").lawful(), 6);
        due(6, "atmost 3", of("groups 2;pot a b;pot c d;pot e f;pot g h;mark m a c e g;atmost 3 m;").lawful(), 14);
        due(6, "fixed", of("groups 3;pot a b c;fixed b 2;").lawful(), 2);
    }

    private static void promise8() {
        due(8, "two of three", of(NO_DRAW).forbids(), 3);
        due(8, "some is", of(TWO).forbids(), 0);
        due(8, "without a text", new BallPots().forbids(), 0);
        due(8, "the least bits", of("groups 2;pot a b;never a 1;fixed a 1;fixed b 1;").forbids(), 3);
        due(8, "one alone, the last", of("groups 2;pot a b;pot c d;never a 0;mark m a b c;atmost 1 m;").forbids(), 2);
        due(8, "three",
                of("groups 3;pot a b c;fixed c 2;never a 0;apart a b;never a 1;never a 2;").forbids(), 1 | 2 | 8);
    }

    private static void promises9And10() {
        BallPots x = of(TWO);
        due(9, "draw(0, 0)", x.draw(0, 0), 0);
        due(9, "draw(0, 3)", x.draw(0, 3), 0);
        due(9, "draw(1, 0)", x.draw(1, 0), 1);
        due(9, "draw(1, 2)", x.draw(1, 2), 0);
        due(9, "draw(2, 0)", x.draw(2, 0), -1);
        due(9, "draw(-1, 0)", x.draw(-1, 0), -1);
        due(9, "draw(0, 4)", x.draw(0, 4), -1);
        due(9, "draw(0, -1)", x.draw(0, -1), -1);
        due(10, "judge(0)", x.judge(0), 0);
        due(10, "judge(1)", x.judge(1), 1);
        due(10, "judge(2)", x.judge(2), 1);
        due(10, "judge(3)", x.judge(3), 0);
        due(10, "judge(4)", x.judge(4), -1);
        due(10, "judge(-1)", x.judge(-1), -1);
        BallPots four = of(FOUR);
        int code = (9 * 24 + 0) * 24 + 23;
        due(9, "rank 9: 1 2 3 0", four.draw(code, 0) * 1000 + four.draw(code, 1) * 100 + four.draw(code, 2) * 10
                + four.draw(code, 3), 1230);
        due(9, "rank 23: 3 2 1 0", four.draw(code, 8) * 1000 + four.draw(code, 9) * 100 + four.draw(code, 10) * 10
                + four.draw(code, 11), 3210);
        due(10, "judge(13823)", four.judge(13823), 1);
        due(10, "judge(13824)", four.judge(13824), -1);
    }

    private static void promise11() {
        BallPots x = of(TWO);
        x.ball(0);
        due(11, "a pot twice", x.order(0), false);
        due(11, "no such pot", x.order(2), false);
        due(11, "the stage stays", x.count(5), 1);
        due(11, "1, 0, bits beyond", x.order(0xfffffff1), true);
        due(11, "the stage is empty", x.count(5), 0);
        due(11, "pot 1 comes first", x.ball(2), 0);
        due(11, "pot 0 not", x.ball(0), -1);
        due(11, "without pots", new BallPots().order(-5), true);
        BallPots four = of("groups 2;pot a b;pot c d;pot e f;pot g h;");
        due(11, "3, 1, 2, 0", four.order(3 | 1 << 2 | 2 << 4), true);
        due(11, "the first is 3", four.ball(7), 0);
        four.ball(6);
        due(11, "then 1", four.ball(3), 0);
    }

    private static void promises12To17() {
        BallPots x = of(THREE);
        due(13, "why(0), no ball", x.why(0), -1);
        due(17, "undo(), no ball", x.undo(), -1);
        due(12, "not its turn", x.ball(3), -1);
        due(12, "no such team", x.ball(6), -1);
        due(12, "no such team", x.ball(-1), -1);
        due(12, "ball(2)", x.ball(2), 0);
        due(13, "why(0) of it", x.why(0), 0);
        due(13, "why(1) of it", x.why(1), 3);
        due(13, "why(3)", x.why(3), -1);
        due(13, "why(-1)", x.why(-1), -1);
        due(12, "it is out", x.ball(2), -1);
        due(12, "ball(0)", x.ball(0), 1);
        due(13, "why(0): full", x.why(0), 1);
        due(12, "ball(1)", x.ball(1), 2);
        due(12, "f", x.ball(5), 0);
        due(12, "d, not with a in 1", x.ball(3), 2);
        due(13, "why(0): full", x.why(0), 1);
        due(13, "why(1): none lawful", x.why(1), 2);
        due(13, "why(2)", x.why(2), 0);
        due(12, "e", x.ball(4), 1);
        due(15, "placed(4)", x.placed(4), 1);
        due(12, "all are out", x.ball(4), -1);
        due(17, "undo()", x.undo(), 5);
        due(15, "placed(4) is back", x.placed(4), -1);
        due(13, "why of the one before", x.why(1), 2);
        due(15, "placed(0)", x.placed(0), 1);
        due(15, "placed(6)", x.placed(6), -1);
        due(15, "placed(-1)", x.placed(-1), -1);
        due(17, "undo() again", x.undo(), 4);
        due(17, "undo() to the pot before", x.undo(), 3);
        due(17, "undo() within it", x.undo(), 2);
        due(12, "it comes again", x.ball(1), 2);
        due(14, "clear()", x.clear(), 3);
        due(14, "clear() of none", x.clear(), 0);
        due(15, "placed(2)", x.placed(2), -1);
        due(12, "the first pot's turn", x.ball(1), 0);
        due(12, "no draw is lawful", of(NO_DRAW).ball(0), -1);
        BallPots y = of("groups 2;pot a b;never a 0;");
        due(12, "b may not be in 1, though 0 is empty", y.ball(1), 0);
        y.clear();
        due(12, "a skips 0", y.ball(0), 1);
        due(13, "why", y.why(0), 2);
    }

    private static void promise16() {
        BallPots x = of(THREE);
        x.ball(0);
        due(16, "no such group", x.arrange(3 | 1 << 2 | 2 << 4), false);
        due(16, "a group twice", x.arrange(0), false);
        due(16, "the stage stays", x.count(5), 1);
        due(16, "2, 0, 1, bits beyond", x.arrange(2 | 1 << 4 | 1 << 8), true);
        due(16, "the stage is empty", x.count(5), 0);
        due(16, "the first is 2", x.ball(0), 2);
        due(16, "why(0)", x.why(0), 3);
        due(16, "then 0", x.ball(1), 0);
        due(16, "why(2) of it", x.why(2), 1);
        due(16, "why(1) of it", x.why(1), 3);
        due(16, "without pots", new BallPots().arrange(1), true);
        BallPots four = of(FOUR);
        due(16, "3, 2, 1, 0", four.arrange(3 | 2 << 2 | 1 << 4), true);
        due(16, "the first is 3", four.ball(1), 3);
        due(16, "the last highest", four.arrange(1 | 2 << 2 | 3 << 4), true);
        four.ball(0);
        four.ball(1);
        four.ball(2);
        due(16, "the last is 0", four.ball(3), 0);
    }

    private static void promise18() {
        BallPots x = of(TWO);
        due(18, "ends(0)", x.ends(0), 0);
        due(18, "ends(2)", x.ends(2), 1);
        x.ball(1);
        due(18, "ends(1) is placed", x.ends(1), 0);
        due(18, "ends(0) then", x.ends(0), 1);
        due(18, "ends(2) then", x.ends(2), 0);
        due(18, "ends(4)", x.ends(4), -1);
        due(18, "ends(-1)", x.ends(-1), -1);
        due(18, "none is lawful", of(NO_DRAW).ends(0), -1);
        BallPots y = of(TWO);
        y.order(1);
        y.ball(3);
        due(18, "by codes, not by the order", y.ends(0), 0);
        due(18, "with d in 0", y.ends(2), 1);
    }

    private static void promise19() {
        BallPots x = of(THREE);
        due(19, "no ball", x.blame(0), -1);
        x.ball(2);
        x.ball(0);
        due(19, "full", x.blame(0), -1);
        due(19, "behind", x.blame(2), -1);
        x.ball(1);
        x.ball(5);
        x.ball(3);
        due(19, "apart and a in 1", x.blame(1), 1);
        due(19, "it is there", x.blame(2), -1);
        due(19, "no such group", x.blame(3), -1);
        BallPots y = of(THREE);
        y.order(1);
        y.ball(3);
        y.ball(5);
        due(19, "f behind is free", y.why(1), 2);
        due(19, "else e were in 2", y.blame(1), 2);
        BallPots z = of("groups 3;pot a b c;never c 0;fixed a 2;fixed b 0;apart a b;");
        due(19, "ball", z.ball(2), 1);
        due(19, "never or fixed b: the lesser", z.blame(0), 1);
        BallPots two = of("groups 3;pot a b c;never a 1;never a 2;never b 1;");
        due(19, "b not in 0: a must be there", two.ball(1), 2);
        due(19, "two bars together", two.blame(0), 3);
    }

    private static void promises20To22() {
        BallPots x = of(TWO);
        due(20, "pair(0, 3, 0)", x.pair(0, 3, 0), 4);
        due(20, "pair(3, 0, 1)", x.pair(3, 0, 1), 2);
        due(20, "pair(0, 3, 2)", x.pair(0, 3, 2), 16);
        due(20, "pair(0, 2, 0)", x.pair(0, 2, 0), 0);
        due(20, "of one pot", x.pair(0, 1, 1), 0);
        due(20, "the same", x.pair(1, 1, 0), -1);
        due(20, "no such team", x.pair(0, 4, 0), -1);
        due(20, "no such team", x.pair(-1, 0, 0), -1);
        due(20, "no such way", x.pair(0, 2, 3), -1);
        due(20, "no such way", x.pair(0, 2, -1), -1);
        due(21, "place(0, 0, 0)", x.place(0, 0, 0), 2);
        due(21, "place(0, 1, 1)", x.place(0, 1, 1), 1);
        due(21, "place(3, 0, 2)", x.place(3, 0, 2), 8);
        due(21, "no such team", x.place(4, 0, 0), -1);
        due(21, "no such group", x.place(0, 2, 0), -1);
        due(21, "no such group", x.place(0, -1, 0), -1);
        due(21, "no such way", x.place(0, 0, 3), -1);
        due(22, "all(0)", x.all(0), 4);
        due(22, "all(1)", x.all(1), 2);
        due(22, "all(2)", x.all(2), 16);
        due(22, "all(3)", x.all(3), -1);
        due(22, "all(-1)", x.all(-1), -1);
        BallPots y = of("groups 3;pot a b c;never a 0;");
        due(20, "skip: a in 1 unless it comes behind one in 1", y.place(0, 1, 0), 4);
        due(21, "skip: a in 2", y.place(0, 2, 0), 2);
        due(21, "skip: b in 0", y.place(1, 0, 0), 3);
        due(21, "even: a in 1", y.place(0, 1, 1), 2);
        due(21, "field: all", y.all(2), 72);
        due(21, "field: a in 1", y.place(0, 1, 2), 36);
        due(21, "field: a in 0", y.place(0, 0, 2), 0);
        BallPots four = of(FOUR);
        due(22, "all(2) of four", four.all(2), 41278242816L);
        due(20, "pair(0, 4, 2) of four", four.pair(0, 4, 2), 10319560704L);
        due(22, "four pots of three", of("groups 3;pot a b c;pot d e f;pot g h i;pot j k l;").all(2), 26873856);
    }

    private static void promisesByStage() {
        BallPots x = of(THREE);
        due(22, "all(0)", x.all(0), 36);
        due(22, "all(2)", x.all(2), 5184);
        x.ball(2);
        due(22, "all(0), one out", x.all(0), 12);
        due(22, "all(1), one out", x.all(1), 5);
        due(22, "all(2), one out", x.all(2), 288);
        due(21, "it is there in all", x.place(2, 0, 2), 288);
        due(20, "c and f", x.pair(2, 5, 1), 1);
        x.ball(0);
        x.ball(1);
        due(22, "all(0), three out", x.all(0), 6);
        due(22, "all(1), three out", x.all(1), 3);
        due(22, "all(2), three out", x.all(2), 72);
        x.ball(5);
        x.ball(3);
        x.ball(4);
        for (int way = 0; way < 3; way++) {
            due(22, "all out", x.all(way), 1);
            due(20, "all out: a and e", x.pair(0, 4, way), 1);
            due(20, "all out: a and d", x.pair(0, 3, way), 0);
            due(21, "all out: e in 1", x.place(4, 1, way), 1);
        }
        x.undo();
        due(22, "all(0) after undo", x.all(0), 1);
        x.clear();
        due(22, "all(0) after clear", x.all(0), 36);
        BallPots none = of(NO_DRAW);
        for (int way = 0; way < 3; way++) {
            due(22, "none is lawful", none.all(way), 0);
            due(20, "none is lawful", none.pair(0, 1, way), 0);
            due(21, "none is lawful", none.place(0, 1, way), 0);
        }
        due(22, "without a text", new BallPots().all(2), 1);
    }

    private static void promise23() {
        BallPots x = of(THREE);
        due(23, "APART", x.apart(0, 1, 0), 32);
        due(23, "SUM", x.apart(0, 1, 1), 128);
        due(23, "the pair", x.apart(0, 1, 2) * 10 + x.apart(0, 1, 3), 4);
        due(23, "FAR of it", x.apart(0, 1, 4), -32);
        due(23, "the other way round", x.apart(1, 0, 4), 32);
        due(23, "all by all", x.apart(0, 1, 5), 36 * 16);
        due(23, "the stage does not matter", x.ball(0) + x.apart(0, 1, 0), 32);
        due(23, "all by all", x.apart(2, 0, 5), 5184 * 36);
        due(23, "what 6", x.apart(0, 1, 6), NO);
        due(23, "what -1", x.apart(0, 1, -1), NO);
        due(23, "like ways", x.apart(1, 1, 0), NO);
        due(23, "no such way", x.apart(0, 3, 0), NO);
        due(23, "no such way", x.apart(-1, 0, 0), NO);
        due(23, "none is lawful", of(NO_DRAW).apart(0, 1, 0), NO);
        BallPots one = of("groups 2;pot a b;never a 0;");
        due(23, "no pair: APART", one.apart(0, 1, 0), 0);
        due(23, "no pair: SUM", one.apart(0, 1, 1), 0);
        due(23, "no pair", one.apart(0, 1, 2), -1);
        due(23, "no pair", one.apart(0, 1, 3), -1);
        due(23, "no pair: FAR", one.apart(0, 1, 4), 0);
        due(23, "no pair: all by all", one.apart(0, 1, 5), 2);
        BallPots even = of(FOUR);
        due(23, "all alike: the first pair", even.apart(2, 1, 2) * 100 + even.apart(2, 1, 3), 4);
    }

    private static void promise24() {
        due(24, "no text: order", new BallPots().nearest(0), 0);
        due(24, "no text: arrangement", new BallPots().nearest(1), 4);
        BallPots x = of("groups 3;pot a b c;pot d e f;pot g h i;never c 0;apart g a;apart f h;");
        due(24, "APART by 0, 1 ..", x.apart(0, 1, 0), 1280);
        due(24, "order 2, 0, 1", x.nearest(0), 18);
        due(24, "arrangement 1, 0, 2", x.nearest(1), 33);
        due(24, "what 2", x.nearest(2), -1);
        due(24, "what -1", x.nearest(-1), -1);
        x.ball(0);
        x.arrange(33);
        due(24, "APART of that arrangement", x.apart(0, 1, 0), 1152);
        due(24, "order by it: 0, 2, 1", x.nearest(0), 24);
        x.order(24);
        due(24, "APART of that order", x.apart(0, 1, 0), 832);
        due(24, "arrangement by it", x.nearest(1), 33);
        due(24, "the stage does not matter", x.ball(0) + x.nearest(0), 1 + 24);
        BallPots y = of("groups 3;pot a b c;pot d e f;pot g h i;apart b i;never a 2;never g 1;");
        due(24, "order 1, 2, 0", y.nearest(0), 9);
        due(24, "arrangement 1, 2, 0", y.nearest(1), 9);
        due(24, "fixed: 1, 2, 0", of("groups 3;pot a b c;pot d e f;fixed c 0;apart e b;").nearest(1), 9);
        due(24, "none is lawful", of(NO_DRAW).nearest(0), -2);
        due(24, "none is lawful", of(NO_DRAW).nearest(1), -2);
        due(24, "all alike: the first", of(FOUR).nearest(0), 1 << 2 | 2 << 4);
        due(24, "all alike: the first", of(FOUR).nearest(1), 1 << 2 | 2 << 4 | 3 << 6);
    }

    private static void promise25() {
        BallPots x = of(TWO);
        due(25, "a b, c d", x.leads(0), 1);
        due(25, "a b, d c", x.leads(1), 1);
        due(25, "b a, c d", x.leads(2), 2);
        due(25, "no such row", x.leads(4), -1);
        due(25, "no such row", x.leads(-1), -1);
        due(25, "none is lawful", of(NO_DRAW).leads(0), -1);
        due(25, "no pots", new BallPots().leads(0), 0);
        BallPots y = of("groups 3;pot a b c;pot d e f;");
        due(25, "balls c a b (row 4): a 1, b 2, c 0 (rank 3)", y.leads(4 * 6), 3 * 6);
        y.order(1);
        due(25, "the row's first rank is of pot 1", y.leads(4 * 6), 3);
        y.arrange(2 | 1 << 2);
        due(25, "by 2, 1, 0: d 1, e 0, f 2 (rank 2), a b c 2 1 0", y.leads(4 * 6), 5 * 6 + 2);
    }

    private static void promise26() {
        BallPots x = of(THREE);
        due(26, "apart a d", x.moves(0, 0, 3), -128);
        due(26, "apart a d, the other way", x.moves(0, 3, 0), -128);
        due(26, "apart a d, of a and e", x.moves(0, 0, 4), 64);
        due(26, "never e 2, of a and d", x.moves(1, 0, 3), 0);
        due(26, "never e 2, of a and e", x.moves(1, 0, 4), 0);
        due(26, "of one pot", x.moves(0, 0, 1), 0);
        due(26, "no such bar", x.moves(2, 0, 3), NO);
        due(26, "no such bar", x.moves(-1, 0, 3), NO);
        due(26, "no such team", x.moves(0, 0, 6), NO);
        due(26, "no such team", x.moves(0, -1, 3), NO);
        due(26, "the same", x.moves(0, 3, 3), NO);
        due(26, "none is lawful", of(NO_DRAW).moves(0, 0, 1), 0);
    }

    private static void promise27() {
        BallPots x = of(THREE);
        due(27, "100", x.leave(100), 0);
        due(27, "50: 8 of 16", x.leave(50), 0);
        due(27, "49: a third is left without apart", x.leave(49), 1);
        due(27, "34", x.leave(34), 1);
        due(27, "33", x.leave(33), -1);
        due(27, "-1", x.leave(-1), -1);
        due(27, "101", x.leave(101), -1);
        due(27, "none is lawful, one bar", of("groups 2;pot a b;never a 0;never b 1;fixed b 1;").leave(0), 4);
        due(27, "none is lawful, two bars", of("groups 2;pot a b;never a 0;never a 1;fixed b 0;fixed b 1;").leave(0), 5);
        due(27, "none is lawful, three bars",
                of("groups 2;pot a b;never a 0;never a 1;never a 0;never a 1;never a 0;never a 1;").leave(100), -1);
        due(27, "no pots", new BallPots().leave(0), 0);
        due(27, "two of three", of("groups 2;pot a b;pot c d;apart a c;apart b d;never a 0;").leave(50), 3);
        due(27, "just one of 50", of("groups 2;pot a b;pot c d;").leave(50), 0);
        due(27, "just one of 49", of("groups 2;pot a b;pot c d;").leave(49), -1);
    }

    private static void promise28() {
        BallPots x = of(TWO);
        due(28, "two that no swap joins", x.parts(0), 2);
        due(28, "the first", x.parts(1), 1);
        due(28, "the greatest", x.parts(2), 1);
        due(28, "what 3", x.parts(3), -1);
        due(28, "what -1", x.parts(-1), -1);
        due(28, "none is lawful", of(NO_DRAW).parts(0) + of(NO_DRAW).parts(1) + of(NO_DRAW).parts(2), 0);
        due(28, "without a text", new BallPots().parts(2), 1);
        BallPots four = of(FOUR);
        due(28, "all are joined", four.parts(0), 1);
        due(28, "all are joined", four.parts(2), 13824);
        BallPots y = of("groups 3;pot a b c;pot d e f;apart a d;never a 1;never a 2;fixed b 1;apart c e;fixed d 1;");
        due(28, "one draw", y.lawful(), 1);
        due(28, "one part", y.parts(0), 1);
        BallPots z = of("groups 2;pot a b;pot c d;pot e f;mark m a c e;mark n b d f;atmost 2 m;apart a c;");
        due(28, "four draws, parts", z.parts(0), 2);
        due(28, "that of the least code", z.parts(1), 2);
        BallPots unlike = of("groups 3;pot a b c;pot d e f;mark m b c f;never b 1;atmost 1 m;");
        due(28, "f is with a: a part for each group of a", unlike.parts(0), 3);
        due(28, "a in 0: b in 2", unlike.parts(1), 2);
        due(28, "a in 1: b in 0 or 2", unlike.parts(2), 4);
    }

    private static void promises29And30() {
        BallPots x = of(TWO);
        due(29, "no swap", x.mix(0, 1), 1);
        due(29, "no swap, another", x.mix(0, 2), 0);
        due(29, "all stay", x.mix(3, 1), 8);
        due(29, "an unlawful one", x.mix(3, 0), 0);
        due(30, "uneven", x.mixed(3, 0), 16);
        due(30, "all", x.mixed(3, 1), 16);
        BallPots y = of("groups 3;pot a b c;");
        due(29, "one swap to 1 0 2", y.mix(1, 2), 1);
        due(29, "one swap to 1 2 0", y.mix(1, 3), 0);
        due(29, "two swaps back", y.mix(2, 0), 3);
        due(29, "two swaps to 1 2 0", y.mix(2, 3), 3);
        due(29, "one swap again", y.mix(1, 1), 1);
        due(29, "five swaps to 2 1 0", y.mix(5, 5), 81);
        due(29, "n 6", y.mix(6, 0), -1);
        due(29, "n -1", y.mix(-1, 0), -1);
        due(29, "no such code", y.mix(0, 6), -1);
        due(29, "no such code", y.mix(0, -1), -1);
        due(30, "uneven at first: 5 and 5 times 1", y.mixed(0, 0), 10);
        due(30, "uneven after five: 243 each", y.mixed(5, 0), 6 * 243);
        due(30, "all of five", y.mixed(5, 1), 243 * 6);
        due(30, "what 2", y.mixed(0, 2), -1);
        due(30, "what -1", y.mixed(0, -1), -1);
        due(30, "n 6", y.mixed(6, 1), -1);
        due(30, "n -1", y.mixed(-1, 1), -1);
        due(29, "none is lawful", of(NO_DRAW).mix(0, 0), -1);
        due(30, "none is lawful", of(NO_DRAW).mixed(0, 1), -1);
        due(29, "no swaps without pots", new BallPots().mix(1, 0), 0);
        due(29, "but one row of none", new BallPots().mix(0, 0), 1);
        due(30, "no rows without pots", new BallPots().mixed(5, 1), 0);
        due(30, "no rows without pots", new BallPots().mixed(5, 0), 0);
        due(30, "one row of none", new BallPots().mixed(0, 1), 1);
        due(29, "parts leave it as it is", y.parts(0) + y.mix(2, 0), 4);
        due(30, "all of five, four groups", of(FOUR).mixed(5, 1), 18L * 18 * 18 * 18 * 18 * 13824);
    }

    /** Seed 1: numbers 1103527590, 377401575, 662824084, 1147902781, by 65536: 16838, 5758, 10113, 17515. */
    private static void promise31() {
        BallPots x = of("groups 2;pot a b;pot c d;");
        due(31, "16838 is even: a first", x.run(1, 0), 0);
        due(31, "b then", x.run(1, 1), 1);
        due(31, "10113 is odd: d first", x.run(1, 3), 0);
        due(31, "c then", x.run(1, 2), 1);
        x.order(1);
        x.arrange(1);
        x.ball(2);
        due(31, "by 0, 1 .. whatever is told", x.run(1, 3), 0);
        due(31, "seed -1", x.run(-1, 0), -1);
        due(31, "no such team", x.run(0, 4), -1);
        due(31, "no such team", x.run(0, -1), -1);
        due(31, "the last seed", x.run(2147483647, 0), 1);
        due(31, "none is lawful", of(NO_DRAW).run(1, 0), -1);
        due(31, "a skips 0", of("groups 2;pot a b;never a 0;").run(1, 0), 1);
        BallPots y = of("groups 3;pot a b c;pot d e f;");
        due(31, "16838 by 3: c", y.run(1, 2), 0);
        due(31, "5758 by 2: a", y.run(1, 0), 1);
        due(31, "one left: b", y.run(1, 1), 2);
        due(31, "17515 by 3: e", y.run(1, 4), 0);
    }

    private static void promise32() {
        BallPots x = of("groups 3;pot a b c;");
        due(32, "1103527590 by 6", x.evenly(1, 0), 0);
        due(32, "12345 by 6", x.evenly(0, 0), 3);
        due(32, "one number came", x.evenly(1, 1), 1);
        due(32, "the last one", x.evenly(1, 2), 1103527590);
        due(32, "what 3", x.evenly(1, 3), -1);
        due(32, "what -1", x.evenly(1, -1), -1);
        due(32, "seed -1", x.evenly(-1, 0), -1);
        due(32, "none is lawful", of(NO_DRAW).evenly(1, 0), -1);
        due(32, "one draw", new BallPots().evenly(1, 0), 0);
        int seed = EdgesOfMachine.seedBefore(2147483646);
        due(32, "2147483646 is too much for six: two came", x.evenly(seed, 1), 2);
        due(32, "the second one", x.evenly(seed, 2), EdgesOfMachine.next(2147483646));
        due(32, "its rest", x.evenly(seed, 0), EdgesOfMachine.next(2147483646) % 6);
        due(32, "but not for two", of("groups 2;pot a b;").evenly(seed, 1), 1);
        due(32, "2147483645 will do for six", x.evenly(EdgesOfMachine.seedBefore(2147483645), 1), 1);
    }

    /** 1: IndexOutOfBoundsException, 2: NoSuchElementException, 0: nothing is thrown. */
    private static int thrown(BallPots x, int team, int what) {
        try {
            x.look(team, what);
            return 0;
        } catch (IndexOutOfBoundsException e) {
            return e.getClass() == IndexOutOfBoundsException.class ? 1 : 3;
        } catch (NoSuchElementException e) {
            return 2;
        }
    }

    private static void promise33() {
        BallPots x = of("groups 2;pot a b;mark m b;pot c d;mark n a b d;mark o d;");
        due(33, "pot of b", x.look(1, 0), 0);
        due(33, "pot of c", x.look(2, 0), 1);
        due(33, "marks of a", x.look(0, 1), 2);
        due(33, "marks of b", x.look(1, 1), 3);
        due(33, "marks of c", x.look(2, 1), 0);
        due(33, "marks of d", x.look(3, 1), 6);
        due(33, "no such what", thrown(x, 0, 2), 2);
        due(33, "no such what", thrown(x, 3, -1), 2);
        due(33, "no such team", thrown(x, 4, 0), 1);
        due(33, "no such team", thrown(x, -1, 1), 1);
        due(33, "neither", thrown(x, 4, 2), 1);
        due(33, "both", thrown(x, 3, 1), 0);
        due(33, "no text", thrown(new BallPots(), 0, 0), 1);
    }

    private static void promise34() {
        BallPots x = of("groups 3;pot a b c;mark m b;pot d e f;mark n a b d;never a 0;apart a e;atmost 1 n;");
        x.ball(1);
        x.ball(2);
        due(34, "groups", x.count(0), 3);
        due(34, "pots", x.count(1), 2);
        due(34, "teams", x.count(2), 6);
        due(34, "marks", x.count(3), 2);
        due(34, "bars", x.count(4), 3);
        due(34, "balls", x.count(5), 2);
        due(34, "draws in all", x.count(6), 36);
        due(34, "what 7", x.count(7), -1);
        due(34, "what -1", x.count(-1), -1);
        due(34, "draws in all", of(FOUR).count(6), 13824);
    }
}
