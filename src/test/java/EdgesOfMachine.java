import java.util.ArrayList;
import java.util.List;

/** The boundaries of draws by a machine's numbers: promises 31 and 32. */
final class EdgesOfMachine {
    private static final int MIN = Integer.MIN_VALUE;
    private static final int MAX = Integer.MAX_VALUE;
    private static final String NO_DRAW = "groups 2;pot a b;never a 0;never a 1;never b 0;";
    private static final String SIX = "groups 3;pot a b c;";

    private final Sentences s;

    EdgesOfMachine(Sentences s) {
        this.s = s;
    }

    void all() {
        numbers();
        evenlyTill();
        run();
        evenly();
    }

    /** One draw alone is lawful without a text: the first number will do. */
    private void numbers() {
        s.says(Sentences.TERMS, "==== 5. THE MACHINE: from a seed 0 .. 2147483647 each number is the last one (at"
                + " first the seed) times 1103515245 and 12345, without what is above 31 bits;");
        BallPots x = new BallPots();
        s.due("seed 0", x.evenly(0, 2), 12345);
        s.due("seed 1", x.evenly(1, 2), 1103527590);
        s.due("seed 2, above 31 bits", x.evenly(2, 2), 2207042835L - 2147483648L);
        s.due("the last seed: 12345 less 1103515245", x.evenly(MAX, 2), 1043980748);
        s.due("seed 2 to the 30: 2 to the 30 and 12345", x.evenly(1 << 30, 2), 1073754169);
        s.due("seed -1", x.evenly(-1, 2), -1);
        s.due("the least seed", x.evenly(MIN, 2), -1);
    }

    static int next(int number) {
        return (int) ((number * 1103515245L + 12345) % (1L << 31));
    }

    /** The multiplier is odd: its inverse modulo 2 to the 31 leads back. */
    static int seedBefore(int number) {
        long inverse = 1;
        for (int k = 0; k < 31; k++) {
            inverse = inverse * (2 - 1103515245L * inverse) & 0x7fffffffL;
        }
        return (int) ((number - 12345) * inverse & 0x7fffffffL);
    }

    private void evenlyTill() {
        s.says(Sentences.TERMS, "EVENLY: numbers come till one is below 2 to the 31 less what is left of that"
                + " divided by how many LAWFUL DRAWS there are: that one's rest by them is the place of the LAWFUL"
                + " DRAW by CODES.");
        String[] texts = {"groups 2;", "groups 2;pot a b;", SIX, "groups 3;pot a b c;never a 0;never b 1;",
            "groups 4;pot a b c d;pot e f g h;pot i j k l;", "groups 3;pot a b c;pot d e f;apart a d;apart b e;"};
        int[] ones = {1, 2, 6, 3, 13824, 18};
        int[] rests = {0, 0, 2, 2, 8192, 2};
        for (int k = 0; k < texts.length; k++) {
            BallPots x = Tapes.of(texts[k]);
            s.due("lawful: " + texts[k], x.lawful(), ones[k]);
            int last = MAX - rests[k];
            s.due(last + " is below", came(x, last), (ones[k] - 1) + " 1 " + last);
            if (rests[k] > 0) {
                int then = next(last + 1);
                s.due((last + 1) + " is not", came(x, last + 1), then % ones[k] + " 2 " + then);
                then = next(MAX);
                s.due("2147483647 is not", came(x, MAX), then % ones[k] + " 2 " + then);
            }
            s.due("0 is", came(x, 0), "0 1 0");
        }
    }

    /** What evenly() answers, if the first number is this one. */
    private static String came(BallPots x, int number) {
        int seed = seedBefore(number);
        return x.evenly(seed, 0) + " " + x.evenly(seed, 1) + " " + x.evenly(seed, 2);
    }

    private static String groups(BallPots x, int seed) {
        StringBuilder all = new StringBuilder();
        for (int team = 0; team < x.count(2); team++) {
            all.append(x.run(seed, team));
        }
        return all.toString();
    }

    /** Seed 1: numbers by 65536 are 16838, 5758, 10113, 17515, 31051, 5627; the last seed's first one is 15929. */
    private void run() {
        s.says(Sentences.TERMS, "the ball that comes is that of place (the number by 65536, modulo how many balls"
                + " are left in the POT) among those left by their numbers of TEAMS; POTS 0, 1 and so on, placed as"
                + " SKIP does by ARRANGEMENT 0, 1 .. .");
        BallPots x = Tapes.of("groups 3;pot a b c;pot d e f;");
        s.due("seed 1: c a b, then e f d", groups(x, 1), "120201");
        x.order(1);
        x.arrange(2 | 1 << 2);
        x.ball(5);
        s.due("by 0, 1 .., whatever is told", groups(x, 1), "120201");
        BallPots barred = Tapes.of("groups 3;pot a b c;pot d e f;never c 0;apart c e;");
        s.due("c skips 0, e skips that group", groups(barred, 1), "021201");
        BallPots skipping = Tapes.of("groups 3;pot a b c;pot d e f;apart c e;");
        s.due("c is in 0: e skips it", groups(skipping, 1), "120210");
        for (int seed = 0; seed < 40; seed++) {
            onStage("groups 4;pot a b c d;pot e f g h;apart a e;never b 0;fixed f 3;", seed * 53687091);
            onStage("groups 3;pot a b c;pot d e f;pot g h i;never c 0;apart g a;apart f h;apart d i;", seed * 53687091);
            onStage("groups 2;pot a b;pot c d;pot e f;pot g h;apart a c;apart e h;apart b g;", seed);
        }
        s.due("one is lawful", groups(Tapes.of("groups 2;pot a b;fixed a 1;"), 1), "10");
        s.says(31, "The GROUP of a TEAM, drawn by THE MACHINE with a seed; NONE: no such ones, no DRAW is LAWFUL.");
        s.due("the last seed: 15929 by 3", x.run(MAX, 2), 0);
        s.due("seed 0: 0 by 3", x.run(0, 0), 0);
        for (int seed : new int[] {-1, -2, MIN}) {
            s.due("run(" + seed + ", 0)", x.run(seed, 0), -1);
        }
        for (int team : new int[] {-1, 6, 12, MIN, MAX}) {
            s.due("run(1, " + team + ")", x.run(1, team), -1);
        }
        s.due("none is lawful", Tapes.of(NO_DRAW).run(1, 0), -1);
        s.due("none is lawful", Tapes.of(NO_DRAW).run(0, 1), -1);
        s.due("no teams", new BallPots().run(1, 0), -1);
    }

    /** The machine's balls come on the stage: they get the groups that run() tells. */
    private void onStage(String text, int seed) {
        BallPots x = Tapes.of(text);
        String due = groups(x, seed);
        int number = seed;
        int groups = x.count(0);
        for (int pot = 0; pot < x.count(1); pot++) {
            List<Integer> left = new ArrayList<>();
            for (int i = 0; i < groups; i++) {
                left.add(pot * groups + i);
            }
            while (!left.isEmpty()) {
                number = next(number);
                x.ball(left.remove(number / 65536 % left.size()));
            }
        }
        StringBuilder got = new StringBuilder();
        for (int team = 0; team < x.count(2); team++) {
            got.append(x.placed(team));
        }
        s.due("seed " + seed + " of " + text, due, got);
    }

    private void evenly() {
        s.says(32, "EVENLY, by a seed, what 0: the place of the LAWFUL DRAW, 1: how many numbers came, 2: the last"
                + " one.");
        BallPots x = Tapes.of(SIX);
        s.due("the place", x.evenly(0, 0), 3);
        s.due("how many came", x.evenly(0, 1), 1);
        s.due("the last one", x.evenly(0, 2), 12345);
        s.says(32, "NONE: no such ones, no DRAW is LAWFUL.");
        for (int what : new int[] {-1, 3, MIN, MAX}) {
            s.due("evenly(0, " + what + ")", x.evenly(0, what), -1);
        }
        for (int seed : new int[] {-1, MIN}) {
            for (int what = 0; what < 3; what++) {
                s.due("evenly(" + seed + ", " + what + ")", x.evenly(seed, what), -1);
            }
        }
        for (int what = 0; what < 3; what++) {
            s.due("none is lawful", Tapes.of(NO_DRAW).evenly(0, what), -1);
        }
        s.due("the last seed", x.evenly(MAX, 2), 1043980748);
    }
}
