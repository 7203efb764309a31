import java.util.Random;

/** Random runs of calls, each answer held against the Oracle's. */
final class RandomRunsTest {
    private static final String[] CALLS = {"fault", "named", "lawful", "without", "forbids", "draw", "judge", "order",
        "ball", "ball", "ball", "ball", "ball", "ball", "ball", "why", "why", "clear", "placed", "arrange", "undo",
        "ends", "blame", "blame", "pair", "pair", "place", "place", "all", "apart", "apart", "nearest", "leads",
        "moves", "leave", "parts", "mix", "mixed", "run", "evenly", "look", "count", "text", "feed"};

    private final Random random;
    private final Duel duel = new Duel();

    private RandomRunsTest(long seed) {
        random = new Random(seed);
    }

    public static void main(String[] args) {
        int wrong = 0;
        long runs = args.length > 0 ? Long.parseLong(args[0]) : 3000;
        long from = args.length > 1 ? Long.parseLong(args[1]) : 0;
        for (long seed = from; seed < from + runs && wrong < 3; seed++) {
            wrong += new RandomRunsTest(seed).go(seed);
        }
        System.out.println(runs + " random runs, " + wrong + " answers are not as due");
        System.exit(wrong == 0 ? 0 : 1);
    }

    /** Few texts are as large as can be: the Oracle is slow. */
    private int go(long seed) {
        boolean large = seed % 50 == 49;
        int texts = large ? 1 : 1 + random.nextInt(3);
        for (int k = 0; k < texts && duel.wrong() == 0; k++) {
            int groups = large ? 4 : 2 + random.nextInt(3);
            int pots = large ? 3 : random.nextInt(groups == 4 ? 3 : 5);
            String text = new Texts(random).sound(groups, pots, random.nextInt(3) == 0 ? 10 : 4);
            if (random.nextInt(8) == 0) {
                text = new Texts(random).amiss(text);
            }
            duel.read(text);
            int calls = large ? 40 : random.nextInt(120);
            for (int i = 0; i < calls && duel.wrong() == 0; i++) {
                anyCall(large);
            }
        }
        return duel.wrong();
    }

    /** Mostly a number below n, now and then one at its edges or far off. */
    private int about(int n) {
        switch (random.nextInt(16)) {
            case 0:
                return n;
            case 1:
                return -1;
            case 2:
                return random.nextInt(3) == 0 ? random.nextInt() : 0;
            default:
                return n <= 0 ? 0 : random.nextInt(n);
        }
    }

    private int turns(int n) {
        if (random.nextInt(6) == 0) {
            return random.nextInt();
        }
        java.util.List<int[]> rows = Oracle.rowsOf(n);
        int[] row = rows.get(random.nextInt(rows.size()));
        int bits = random.nextInt(4) == 0 && n < 4 ? 3 << 2 * n | 1 << 30 : 0;
        for (int i = 0; i < n; i++) {
            bits |= row[i] << 2 * i;
        }
        return bits;
    }

    private void anyCall(boolean large) {
        String name = CALLS[random.nextInt(CALLS.length)];
        if (large && (name.equals("nearest") || name.equals("leave") || name.equals("leads")) && random.nextInt(4) > 0) {
            return;
        }
        int groups = (int) duel.call("count", 0);
        int pots = (int) duel.call("count", 1);
        int teams = (int) duel.call("count", 2);
        int bars = (int) duel.call("count", 4);
        int draws = (int) duel.call("count", 6);
        switch (name) {
            case "fault":
            case "all":
            case "nearest":
            case "parts":
                duel.call(name, about(3));
                return;
            case "named":
                duel.call(name, about(2), about(32) << 25 | (random.nextInt(4) == 0 ? random.nextInt(1 << 25) : 0));
                return;
            case "lawful":
            case "forbids":
            case "clear":
            case "undo":
                duel.call(name);
                return;
            case "without":
                duel.call(name, about(bars));
                return;
            case "draw":
                duel.call(name, about((int) duel.call("lawful")), about(teams));
                return;
            case "judge":
            case "leads":
                duel.call(name, about(draws));
                return;
            case "order":
                duel.call(name, turns(pots));
                return;
            case "arrange":
                duel.call(name, turns(groups));
                return;
            case "ball":
                for (int k = 0; k < 4 && duel.call(name, about(teams)) < 0; k++) {
                }
                return;
            case "placed":
            case "ends":
                duel.call(name, about(teams));
                return;
            case "why":
            case "blame":
                for (int group = -1; group <= groups; group++) {
                    duel.call(name, group);
                }
                return;
            default:
                anyLargerCall(name, groups, teams, bars, draws);
        }
    }

    private void anyLargerCall(String name, int groups, int teams, int bars, int draws) {
        switch (name) {
            case "pair":
                duel.call(name, about(teams), about(teams), about(3));
                return;
            case "place":
                duel.call(name, about(teams), about(groups), about(3));
                return;
            case "apart":
                duel.call(name, about(3), about(3), about(6));
                return;
            case "moves":
                duel.call(name, about(bars), about(teams), about(teams));
                return;
            case "leave":
                duel.call(name, about(101));
                return;
            case "mix":
                duel.call(name, about(6), about(draws));
                return;
            case "mixed":
                duel.call(name, about(6), about(2));
                return;
            case "run":
                duel.call(name, random.nextInt(), about(teams));
                duel.call(name, about(Integer.MAX_VALUE), about(teams));
                return;
            case "evenly":
                duel.call(name, about(Integer.MAX_VALUE), about(3));
                return;
            case "look":
                duel.call(name, about(teams), about(2));
                return;
            case "count":
                duel.call(name, about(7));
                return;
            case "text":
                duel.call(name, random.nextInt(8) == 0 ? 0 : -random.nextInt(5));
                return;
            default:
                duel.call(name, random.nextInt(), random.nextInt(), 0, -1, ' ');
                duel.call("text", 401);
                duel.call("text", 1 + random.nextInt(20));
        }
    }
}
