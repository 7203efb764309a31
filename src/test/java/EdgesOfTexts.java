/** The boundaries of the language of texts, as the terms tell them. */
final class EdgesOfTexts {
    private static final String[] LANGUAGE = {"groups", "pot", "mark", "atmost", "apart", "never", "fixed"};
    private static final String SOME = "groups 2;pot a b;mark m a;";
    private static final String FOUR_POTS = "groups 2;pot a b;pot c d;pot e f;pot g h;";
    private static final String TWELVE_BY_FOURS = "groups 4;pot a b c d;pot e f g h;pot i j k l;";
    private static final String TWELVE_BY_THREES = "groups 3;pot a b c;pot d e f;pot g h i;pot j k l;";
    private static final String SIX_MARKS =
            "groups 2;pot a b;mark n a;mark o b;mark q a;mark r b;mark s a b;mark t a;";

    private final Sentences s;

    EdgesOfTexts(Sentences s) {
        this.s = s;
    }

    void all() {
        lines();
        groups();
        words();
        names();
        numbers();
        blanks();
        pots();
        marks();
        bars();
        firstFault();
        cantStand();
        cutOff();
        firstLine();
        tooMuch();
        told();
        notTold();
        tooFew();
    }

    private void says(String words) {
        s.says(Sentences.TERMS, words);
    }

    private void lines() {
        says("A TEXT: { LINE ';' }.");
        s.sound(0, "");
        s.sound(1, "groups 2;");
        s.sound(2, "groups 2;pot a b;");
        s.fault(1, "^;");
        s.fault(1, "groups 2^");
        s.fault(1, "groups 2;^;");
        s.fault(1, "groups 2;pot a b^");
        s.fault(1, "groups 2;pot a b;^;");
        says("LINE: groups N | pot W { W } | mark W W { W } | atmost N W | apart W W | never W N | fixed W N.");
        s.sound(2, "groups 4;pot a b c d;");
        s.sound(4, "groups 2;pot a b;mark m a;mark n a b;");
        s.fault(1, "groups 2;pot a b;mark m^;");
        s.fault(1, "groups 2;pot^;");
        s.sound(7, SOME + "atmost 1 m;apart a b;never a 1;fixed a 0;");
        s.fault(1, SOME + "^at most 1 m;");
        s.fault(1, SOME + "^a apart b;");
    }

    private void groups() {
        says("The first LINE is groups N (2 .. 4): so many GROUPS, numbered from 0 on.");
        s.fault(2, "groups ^0;");
        s.fault(2, "groups ^1;");
        for (int n = 2; n <= 4; n++) {
            s.due("groups", s.sound(1, "groups " + n + ";").count(0), n);
        }
        s.due("groups of 0004", s.sound(1, "groups 0004;").count(0), 4);
        s.fault(2, "groups ^5;");
        s.fault(2, "groups ^12;");
        s.fault(2, "groups ^20;");
        s.fault(2, "groups ^4294967298;");
        s.fault(2, "groups ^18446744073709551618;");
        s.fault(2, "groups ^1" + "0".repeat(64) + "2;");
        s.sound(3, "groups 4;pot a b c d;never a 0;");
        s.sound(3, "groups 4;pot a b c d;never a 3;");
        s.fault(2, "groups 4;pot a b c d;never a ^4;");
    }

    private void words() {
        says("Words: small letters in a row;");
        s.sound(2, "groups 2;pot a z;");
        s.sound(2, "groups 2;pot az za;");
        for (char sign : new char[] {'`', '{', 'A', 'Z', '_', 'a' + 128, 'z' + 128, '\u00ff'}) {
            s.fault(1, "groups 2;pot a ^" + sign + ";");
            s.fault(1, "groups 2;pot a b^" + sign + ";");
        }
        s.fault(1, "groups 2;^po t a b;");
        s.fault(1, "^gr oups 2;");
    }

    private void names() {
        says("W: one of 1 .. 6 letters, none of those of the language;");
        s.sound(2, "groups 2;pot a b;");
        s.sound(2, "groups 2;pot abcdef abcdeg;");
        s.fault(1, "groups 2;pot a ^abcdefg;");
        s.fault(1, "groups 2;pot abcdef ^abcdefg;");
        s.fault(1, "groups 2;pot a ^" + "b".repeat(32) + ";");
        s.fault(1, "groups 2;pot a ^" + "b".repeat(257) + ";");
        s.sound(3, "groups 2;pot a b;mark abcdef a;");
        s.fault(1, "groups 2;pot a b;mark ^abcdefg a;");
        s.fault(1, "groups 2;^fixedfix a 0;");
        for (String word : LANGUAGE) {
            s.fault(1, "groups 2;pot ^" + word + " b;");
            s.fault(1, "groups 2;pot a ^" + word + ";");
            s.fault(1, SOME + "mark ^" + word + " a;");
            s.fault(1, SOME + "mark n ^" + word + ";");
            s.fault(1, SOME + "atmost 1 ^" + word + ";");
            s.fault(1, SOME + "apart ^" + word + " a;");
            s.fault(1, SOME + "apart a ^" + word + ";");
            s.fault(1, SOME + "never ^" + word + " 0;");
            s.fault(1, SOME + "fixed ^" + word + " 0;");
            String less = word.substring(0, word.length() - 1);
            s.sound(3, "groups 2;pot a " + less + ";mark " + less + " a;");
            if (word.length() < 6) {
                s.sound(3, "groups 2;pot a " + word + "s;mark " + word + "s a;");
            }
        }
    }

    private void numbers() {
        says("N: digits.");
        s.fault(1, "groups ^/;");
        s.fault(2, "groups ^0;");
        s.fault(2, "groups ^9;");
        s.fault(1, "groups ^:;");
        s.fault(1, "groups ^-2;");
        s.fault(1, "groups ^+2;");
        s.fault(1, "groups 2^.;");
        s.fault(1, "groups 2 ^2;");
        s.fault(1, "groups ^two;");
        s.fault(1, "groups ^" + (char) ('2' + 128) + ";");
        s.sound(1, "groups 0000000002;");
        s.sound(4, SOME + "never a 0;");
        s.sound(4, SOME + "atmost 01 m;");
    }

    /** A sign ahead of a line makes it fault, but for the two blanks. */
    private void blanks() {
        says("Blanks 10, 32.");
        for (int sign = 0; sign < 256; sign++) {
            if (sign == 10 || sign == 32) {
                s.sound(2, "groups 2;" + (char) sign + "pot a b;");
                s.sound(2, "groups" + (char) sign + "2;pot a" + (char) sign + "b;");
            } else if (sign != '^') {
                s.fault(1, "groups 2;^" + (char) sign + "pot a b;");
            }
        }
        s.sound(2, "\n \ngroups\n\n2 ; pot\na  b\n;\n ");
        s.sound(0, " \n");
    }

    private void pots() {
        says("pot: the next POT (at most 4, numbered from 0 on), with its TEAMS, as many as GROUPS;");
        BallPots x = s.sound(5, FOUR_POTS);
        s.due("pots", x.count(1), 4);
        s.due("the first team's pot", x.look(0, 0), 0);
        s.due("the last team's pot", x.look(7, 0), 3);
        s.fault(2, FOUR_POTS + "^pot i j;");
        s.fault(5, "groups 3;pot a b^;");
        s.due("teams", s.sound(2, "groups 3;pot a b c;").count(2), 3);
        s.fault(2, "groups 3;pot a b c ^d;");

        says("at most 12 TEAMS in all, numbered as they come.");
        BallPots fours = s.sound(4, TWELVE_BY_FOURS);
        s.due("teams", fours.count(2), 12);
        s.due("the first", fours.named(0, Tapes.letters("a")), 0);
        s.due("the last", fours.named(0, Tapes.letters("l")), 11);
        s.due("the first of the last pot", fours.look(8, 0), 2);
        s.fault(2, TWELVE_BY_FOURS + "^pot m n o p;");
        BallPots threes = s.sound(5, TWELVE_BY_THREES);
        s.due("teams", threes.count(2), 12);
        s.due("the last", threes.named(0, Tapes.letters("l")), 11);
        s.fault(2, TWELVE_BY_THREES + "^pot m n o;");
    }

    private void marks() {
        says("mark: a MARK (at most 6), and the TEAMS that have it.");
        BallPots x = s.sound(8, SIX_MARKS);
        s.due("marks", x.count(3), 6);
        s.due("marks of a", x.look(0, 1), 1 | 4 | 16 | 32);
        s.due("marks of b", x.look(1, 1), 2 | 8 | 16);
        s.due("the sixth mark", x.named(1, Tapes.letters("t")), 5);
        s.fault(2, SIX_MARKS + "^mark u a;");
    }

    private static String withTenBars() {
        return SOME + "atmost 1 m;apart a b;fixed a 0;" + "never a 1;".repeat(6) + "never b 0;";
    }

    private void bars() {
        says("BARS, at most 10, numbered as they come:");
        BallPots x = s.sound(13, withTenBars());
        s.due("bars", x.count(4), 10);
        s.due("lawful", x.lawful(), 1);
        s.due("the tenth bar", x.without(9), 1);
        s.due("no eleventh bar", x.without(10), -1);
        for (String bar : new String[] {"atmost 1 m;", "apart a b;", "never a 0;", "fixed a 0;"}) {
            s.fault(2, withTenBars() + "^" + bar);
        }
        atMost();
        says("apart W W: not these two in one GROUP;");
        BallPots apart = s.sound(4, "groups 2;pot a b;pot c d;apart a c;");
        s.due("both in 0", apart.judge(0), 0);
        s.due("a in 0, c in 1", apart.judge(1), 1);
        s.due("a in 1, c in 0", apart.judge(2), 1);
        s.due("both in 1", apart.judge(3), 0);
        s.due("of one pot it always holds", s.sound(3, "groups 2;pot a b;apart a b;").lawful(), 2);
        says("never W N: not this TEAM in that GROUP;");
        s.due("b in 0", Tapes.of("groups 2;pot a b;never b 1;").judge(1), 1);
        s.due("b in 1", Tapes.of("groups 2;pot a b;never b 1;").judge(0), 0);
        s.due("b in 0, never 0", Tapes.of("groups 2;pot a b;never b 0;").judge(1), 0);
        says("fixed W N: this TEAM in that GROUP.");
        s.due("b in 0", Tapes.of("groups 2;pot a b;fixed b 1;").judge(1), 0);
        s.due("b in 1", Tapes.of("groups 2;pot a b;fixed b 1;").judge(0), 1);
        s.due("c in 2 alone", Tapes.of("groups 3;pot a b c;fixed c 2;").lawful(), 2);
    }

    /** Team 0, 2, 4, 6 have the mark: a code's bits tell which of them are in group 1, the first one highest. */
    private void atMost() {
        says("atmost N W: at most N (1 .. 3) TEAMS with a MARK in a GROUP;");
        String text = FOUR_POTS + "mark m a c e g;atmost ";
        s.fault(2, text + "^0 m;");
        s.fault(2, text + "^4 m;");
        s.fault(2, text + "^4294967297 m;");
        for (int most = 1; most <= 3; most++) {
            BallPots x = s.sound(7, text + most + " m;");
            for (int code = 0; code < 16; code++) {
                int ones = Integer.bitCount(code);
                s.due("judge(" + code + "), at most " + most, x.judge(code), ones <= most && 4 - ones <= most ? 1 : 0);
            }
        }
        s.due("one with a mark", Tapes.of("groups 2;pot a b;pot c d;mark m a;atmost 1 m;").lawful(), 4);
        s.due("by the second mark", Tapes.of("groups 2;pot a b;pot c d;mark m a d;mark n a c;atmost 1 n;").judge(0), 0);
        s.due("not by the first", Tapes.of("groups 2;pot a b;pot c d;mark m a d;mark n a c;atmost 1 n;").judge(1), 1);
        String six = "groups 2;pot a b;pot c d;mark m a;mark n a;mark o a;mark q a;mark r a;mark s a c;atmost 1 s;";
        s.due("by the sixth mark", Tapes.of(six).judge(0), 0);
        s.due("not by others", Tapes.of(six).judge(1), 1);
    }

    private void firstFault() {
        says("FAULTS, the first along the text (of one place the least), with its place:");
        s.fault(5, "groups 2;pot a^;;");
        s.fault(4, "groups 2;mark m ^x;!");
        s.fault(3, "groups 2;^groups 9;");
        s.fault(2, "groups ^9");
        s.fault(2, "groups 2;pot a b ^c;mark m x;");
        s.fault(1, "groups 2;pot^;");
        s.fault(1, "groups 2;pot a b ^never;");
        s.fault(1, "groups 2;pot a b ^abcdefg;");
        s.fault(2, "groups 2;pot a b ^a;");
        s.fault(3, "groups 2;pot a ^a b;");
        s.fault(2, "groups 2;pot a b;apart a b;never a ^2 0;");
        s.fault(4, "groups 2;pot a b;never ^c 2;");
        s.fault(2, SOME + "atmost ^0 x;");
        s.fault(2, SIX_MARKS + "^mark n;");
        s.fault(2, withTenBars() + "^apart a a;");
    }

    private void cantStand() {
        says("1 a TOKEN that is none (a word of more than 6 letters, too) or can't stand there");
        s.fault(1, "groups 2;^!");
        s.fault(1, "groups 2;^pottery a b;");
        s.fault(1, "groups 2;^potter a b;");
        s.fault(1, "^groupss 2;");
        s.fault(1, "^group 2;");
        s.fault(1, "groups 2;^2;");
        s.fault(1, "groups 2 ^pot a b;");
        s.fault(1, "groups 2 ^a;");
        s.fault(1, "groups ^;");
        s.fault(1, "groups 2;pot a ^1;");
        s.fault(1, "groups 2;pot ^1 a;");
        s.fault(1, SOME + "mark^;");
        s.fault(1, SOME + "mark ^1 a;");
        s.fault(1, SOME + "mark n^;");
        s.fault(1, SOME + "mark n ^1;");
        s.fault(1, SOME + "mark n a ^1;");
        s.fault(1, SOME + "atmost^;");
        s.fault(1, SOME + "atmost ^m 1;");
        s.fault(1, SOME + "atmost 1^;");
        s.fault(1, SOME + "atmost 1 ^1;");
        s.fault(1, SOME + "atmost 1 m ^m;");
        s.fault(1, SOME + "apart^;");
        s.fault(1, SOME + "apart a^;");
        s.fault(1, SOME + "apart ^0 a;");
        s.fault(1, SOME + "apart a ^0;");
        s.fault(1, SOME + "apart a b ^a;");
        for (String held : new String[] {"never", "fixed"}) {
            s.fault(1, SOME + held + "^;");
            s.fault(1, SOME + held + " ^0 a;");
            s.fault(1, SOME + held + " a^;");
            s.fault(1, SOME + held + " a ^b;");
            s.fault(1, SOME + held + " a 0 ^0;");
            s.fault(1, SOME + held + " a 0 ^b;");
            s.sound(4, SOME + held + " a 0;");
        }
        s.sound(4, SOME + "mark n a b;");
        s.sound(4, SOME + "atmost 1 m;");
        s.sound(4, SOME + "apart a b;");
    }

    private void cutOff() {
        says("(the length, if more must come;");
        String[] lines = {"mark n b", "mark n a b", "atmost 1 m", "apart a b", "never a 0", "fixed a 0", "pot c d"};
        for (String line : lines) {
            for (int end = 1; end <= line.length(); end++) {
                if (end == line.length() || line.charAt(end) == ' ') {
                    s.fault(1, SOME + line.substring(0, end) + "^");
                    s.fault(1, SOME + line.substring(0, end) + " \n ^");
                }
            }
            s.sound(4, SOME + line + ";");
        }
        s.fault(1, "groups^");
        s.fault(1, "groups ^");
        s.fault(1, "groups 2 ^");
        cutAt("groups 2;pot a b;", 16);
        cutAt("groups 2;pot a bc;", 16);
        cutAt("groups 22;", 8);
        cutAt("groups 2; ;", 8);
        cutAt("groups 2;" + " ".repeat(383) + "pot aa b", 400);
        cutAt("groups 2;pot a b;" + " ".repeat(373) + "never a 01", 400);
    }

    /** What stands on the tape behind a text is no part of it. */
    private void cutAt(String taped, int length) {
        BallPots x = new BallPots();
        Tapes.feed(x, taped);
        s.due("the first " + length + " of " + taped, x.text(length), -1);
        s.due("more must come", x.fault(0), 1);
        s.due("its length, not the tape's", x.fault(1), length);
    }

    private void firstLine() {
        says("a LINE other than groups at first).");
        for (String word : LANGUAGE) {
            if (!word.equals("groups")) {
                s.fault(1, "^" + word + " a b;");
                s.fault(1, " \n^" + word);
            }
        }
        s.fault(1, "^a;");
        s.fault(1, "^2;");
        s.sound(2, "groups 2;pot a b;");
    }

    private void tooMuch() {
        says("2 too much (at it): a number beyond what is said (of a GROUP: none of those),");
        for (int n = 2; n <= 4; n++) {
            String text = "groups " + n + ";pot " + "a b c d".substring(0, 2 * n - 1) + ";";
            for (String held : new String[] {"never b ", "fixed b "}) {
                s.sound(3, text + held + "0;");
                s.sound(3, text + held + (n - 1) + ";");
                s.sound(3, text + held + "000;");
                s.fault(2, text + held + "^" + n + ";");
                s.fault(2, text + held + "^10;");
                s.fault(2, text + held + "^4294967296;");
            }
        }
        says("a fifth pot or one with which there would be more than 12 TEAMS, a seventh mark, an eleventh bar"
                + " (each at the word of its LINE),");
        s.sound(5, FOUR_POTS);
        s.fault(2, FOUR_POTS + "^pot");
        s.sound(4, TWELVE_BY_FOURS);
        s.fault(2, TWELVE_BY_FOURS + "^pot;");
        s.sound(5, TWELVE_BY_THREES);
        s.fault(2, TWELVE_BY_THREES + "^pot a;");
        s.sound(8, SIX_MARKS);
        s.fault(2, SIX_MARKS + " ^mark");
        s.sound(13, withTenBars());
        s.fault(2, withTenBars() + " ^atmost 9 x;");
        s.fault(2, withTenBars() + "^apart");
        s.fault(2, withTenBars() + "^never;");
        s.fault(2, withTenBars() + "^fixed 1;");
        s.sound(14, withTenBars() + "pot c d;");
        says("a TEAM of a pot beyond as many as GROUPS.");
        s.fault(2, "groups 2;pot a b ^c;");
        s.fault(2, "groups 2;pot a b ^c d;");
        s.fault(2, "groups 3;pot a b c ^d;");
        s.fault(2, "groups 4;pot a b c d ^e");
        s.sound(2, "groups 4;pot a b c d;");
    }

    private void told() {
        says("3 told already: groups (at the word), a TEAM in a pot, a MARK, a TEAM twice in one LINE (at W).");
        s.fault(3, "groups 2;^groups 2;");
        s.fault(3, "groups 2;pot a b; ^groups");
        s.fault(3, "groups 2;pot a ^a;");
        s.fault(3, "groups 2;pot a b;pot c ^b;");
        s.fault(3, "groups 2;pot a b;pot ^a c;");
        s.fault(3, SOME + "mark ^m b;");
        s.fault(3, SOME + "mark n a ^a;");
        s.fault(3, SOME + "mark n a b ^a;");
        s.fault(3, SOME + "apart b ^b;");
        s.sound(3, "groups 2;pot a b;mark a b;");
        s.sound(3, "groups 2;pot a b;mark a a;");
        s.sound(3, "groups 2;pot ab abc;pot a abcd;");
        s.sound(4, SOME + "mark n a;");
        s.sound(4, SOME + "mark mm a;");
        s.sound(4, SOME + "pot m n;");
        s.sound(5, SOME + "apart a b;apart a b;");
    }

    private void notTold() {
        says("4 a TEAM or MARK that isn't told ahead (at W).");
        s.fault(4, "groups 2;mark m ^a;pot a b;");
        s.sound(3, "groups 2;pot a b;mark m a;");
        s.fault(4, SOME + "mark n a ^c;");
        s.fault(4, SOME + "mark n ^n;");
        s.fault(4, "groups 2;pot a b;atmost 1 ^m;mark m a;");
        s.sound(4, SOME + "atmost 1 m;");
        s.fault(4, SOME + "atmost 1 ^a;");
        s.fault(4, SOME + "apart ^c a;pot c d;");
        s.fault(4, SOME + "apart a ^c;");
        s.fault(4, SOME + "apart a ^m;");
        s.fault(4, SOME + "never ^c 0;");
        s.fault(4, SOME + "never ^m 0;");
        s.fault(4, SOME + "fixed ^c 0;");
        s.fault(4, "groups 2;pot ab b;never ^a 0;");
        s.fault(4, "groups 2;pot ab b;never ^abc 0;");
        s.sound(3, "groups 2;pot ab b;never ab 0;");
    }

    private void tooFew() {
        says("5 a pot with fewer TEAMS than GROUPS (at its ;).");
        s.fault(5, "groups 2;pot a^;");
        s.fault(5, "groups 2;pot a \n^;pot b c;");
        s.fault(5, "groups 3;pot a b^;");
        s.fault(5, "groups 4;pot a b c^;");
        s.fault(5, "groups 4;pot a^;");
        s.fault(5, "groups 2;pot a b;pot c^;");
        s.sound(3, "groups 2;pot a b;pot c d;");
        s.sound(2, "groups 4;pot a b c d;");
    }
}
