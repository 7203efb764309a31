import java.util.Arrays;
import java.util.NoSuchElementException;

/** A draw of teams from pots into groups; see README.md. */
public final class BallPots {
    public static final int NONE = -1;

    private static final int TOO_FEW = -2;
    private static final int NO_LAWFUL = -2;
    private static final int STALE = -3;
    private static final int MOST_BYTES = 400;
    private static final int BYTES_A_FEED = 20;
    private static final int MOST_GROUPS = 4;
    private static final int MOST_POTS = 4;
    private static final int MOST_TEAMS = 12;
    private static final int MOST_MARKS = 6;
    private static final int MOST_BARS = 10;
    private static final int MOST_RANKS = 24;
    private static final int MOST_SWAPS = 6;
    private static final int MOST_MIX = 5;
    private static final int SKIP = 0;
    private static final int EVEN = 1;
    private static final int FIELD = 2;
    private static final int WAYS = 3;
    private static final int[] IN_TURN = {0, 1, 2, 3};
    /** Rows of so many balls of one pot, by SKIP and by FIELD (there with their shares). */
    private static final int[] SKIP_ROWS = {1, 1, 2, 6, 24};
    private static final int[] FIELD_ROWS = {1, 1, 4, 72, 3456};
    /** The least number into which all of 1 .. so many go. */
    private static final int[] SHARES = {1, 1, 2, 6, 12};

    private final int[] tape = new int[MOST_BYTES];
    private int taped;
    private final Plan plan = new Plan();
    private final Reader reader = new Reader(tape);
    private final Ranks ranks = new Ranks();
    private final Draws draws = new Draws(plan, ranks);
    private final Stage stage = new Stage(plan, ranks);
    private final Tree treeNow = new Tree(draws);
    private final Tree treeInTurn = new Tree(draws);
    private final Tree treeTried = new Tree(draws);
    private final Reckoner reckoner = new Reckoner(draws, stage);
    private final Chances[] fromStart = new Chances[WAYS];
    private final Chances[] fromNow = new Chances[WAYS];
    private final Chances tried = new Chances();
    private final BarTable barTable = new BarTable(draws);
    private final Swaps swaps = new Swaps(draws);
    private int nearestOrder = STALE;
    private int nearestArrangement = STALE;

    public BallPots() {
        for (int way = 0; way < WAYS; way++) {
            fromStart[way] = new Chances();
            fromNow[way] = new Chances();
        }
        beginAnew();
    }

    public int feed(int a, int b, int c, int d, int e) {
        if (taped + BYTES_A_FEED > MOST_BYTES) {
            return NONE;
        }
        tapeFour(a);
        tapeFour(b);
        tapeFour(c);
        tapeFour(d);
        tapeFour(e);
        return taped;
    }

    private void tapeFour(int four) {
        for (int shift = 24; shift >= 0 && taped < MOST_BYTES; shift -= 8) {
            tape[taped] = four >>> shift & 255;
            taped++;
        }
    }

    public int text(int n) {
        if (n < 0 || n > taped) {
            return TOO_FEW;
        }
        int lines = reader.readLines(n);
        taped = 0;
        if (reader.fault != 0) {
            return NONE;
        }
        plan.take(reader.plan);
        beginAnew();
        return lines;
    }

    /** After a new plan: nothing that was reckoned for the old one holds. */
    private void beginAnew() {
        ranks.set(plan.groups);
        draws.renew();
        stage.putInTurn();
        treeNow.fresh = false;
        treeInTurn.fresh = false;
        fromStart[EVEN].fresh = false;
        barTable.fresh = false;
        swaps.forget();
        nearestOrder = STALE;
        nearestArrangement = STALE;
        startChanged();
    }

    private void startChanged() {
        fromStart[SKIP].fresh = false;
        fromStart[FIELD].fresh = false;
        stageChanged();
    }

    private void stageChanged() {
        for (int way = 0; way < WAYS; way++) {
            fromNow[way].fresh = false;
        }
    }

    public int fault(int what) {
        if (what == 0) {
            return reader.fault;
        }
        return what == 1 ? reader.place : NONE;
    }

    public int named(int what, int letters) {
        if (what == 0) {
            return plan.teamNamed(letters);
        }
        return what == 1 ? plan.markNamed(letters) : NONE;
    }

    public int lawful() {
        return draws.lawfulOnes;
    }

    public int without(int bar) {
        return isBar(bar) ? draws.within[1 << bar] : NONE;
    }

    public int forbids() {
        return draws.lawfulOnes > 0 ? 0 : Draws.fewest(draws.within, plan.bars);
    }

    public int draw(int k, int team) {
        if (k < 0 || k >= draws.lawfulOnes || !isTeam(team)) {
            return NONE;
        }
        return draws.groupIn(draws.lawfulCodes[k], team);
    }

    public int judge(int code) {
        if (!isCode(code)) {
            return NONE;
        }
        return draws.broken[code] == 0 ? 1 : 0;
    }

    private boolean isTeam(int team) {
        return team >= 0 && team < plan.teams;
    }

    private boolean isGroup(int group) {
        return group >= 0 && group < plan.groups;
    }

    private boolean isBar(int bar) {
        return bar >= 0 && bar < plan.bars;
    }

    private boolean isCode(int code) {
        return code >= 0 && code < draws.total;
    }

    private static boolean isWay(int way) {
        return way >= 0 && way < WAYS;
    }

    public boolean order(int bits) {
        if (!readTurns(bits, plan.pots, stage.potAt)) {
            return false;
        }
        stage.empty();
        treeNow.fresh = false;
        nearestArrangement = STALE;
        startChanged();
        return true;
    }

    public boolean arrange(int bits) {
        if (!readTurns(bits, plan.groups, stage.groupAt)) {
            return false;
        }
        stage.empty();
        nearestOrder = STALE;
        startChanged();
        return true;
    }

    /** Takes n numbers of two bits, the first lowest, if they are each of 0 .. n - 1 once. */
    private static boolean readTurns(int bits, int n, int[] turns) {
        int seen = 0;
        for (int i = 0; i < n; i++) {
            seen |= 1 << (bits >>> 2 * i & 3);
        }
        if (seen != (1 << n) - 1) {
            return false;
        }
        for (int i = 0; i < n && i < turns.length; i++) {
            turns[i] = bits >>> 2 * i & 3;
        }
        return true;
    }

    private Tree treeOfNow() {
        if (!treeNow.fresh) {
            treeNow.build(stage.potAt);
        }
        return treeNow;
    }

    public int ball(int team) {
        if (!isTeam(team) || draws.lawfulOnes == 0 || stage.groupOf[team] != NONE) {
            return NONE;
        }
        int pot = plan.potOf(team);
        if (pot != stage.potInTurn()) {
            return NONE;
        }
        int open = treeOfNow().ranksOpen(stage.fullPots(), stage.prefix()) & stage.ranksLeft(pot);
        int place = plan.placeOf(team);
        int group = ranks.groupWith(ranks.firstOpen(open, place, stage.groupAt), place);
        if (group != NONE) {
            stage.put(team, group);
            stageChanged();
        }
        return group;
    }

    public int why(int group) {
        return isGroup(group) ? stage.reason(group) : NONE;
    }

    public int clear() {
        int were = stage.out;
        stage.empty();
        stageChanged();
        return were;
    }

    public int placed(int team) {
        return isTeam(team) ? stage.groupOf[team] : NONE;
    }

    public int undo() {
        if (stage.out == 0) {
            return NONE;
        }
        stage.takeBack();
        stageChanged();
        return stage.out;
    }

    public int ends(int team) {
        if (!isTeam(team)) {
            return NONE;
        }
        stage.allow(NONE, NONE);
        int code = draws.firstLawful(stage.allowed);
        return code == NONE ? NONE : draws.groupIn(code, team);
    }

    public int blame(int group) {
        if (!isGroup(group) || stage.reason(group) != Stage.NONE_LAWFUL) {
            return NONE;
        }
        stage.allow(stage.latest(), group);
        return draws.fewestAgainst(stage.allowed);
    }

    public long pair(int a, int b, int way) {
        if (!isTeam(a) || !isTeam(b) || a == b || !isWay(way)) {
            return NONE;
        }
        return draws.lawfulOnes == 0 ? 0 : chancesNow(way).ofPair(a, b);
    }

    public long place(int team, int group, int way) {
        if (!isTeam(team) || !isGroup(group) || !isWay(way)) {
            return NONE;
        }
        return draws.lawfulOnes == 0 ? 0 : chancesNow(way).ofPlace(team, group);
    }

    public long all(int way) {
        if (!isWay(way)) {
            return NONE;
        }
        if (draws.lawfulOnes == 0) {
            return 0;
        }
        if (way == EVEN) {
            return chancesNow(EVEN).rows;
        }
        return stage.rowsLeft(way == SKIP ? SKIP_ROWS : FIELD_ROWS);
    }

    private Chances chancesNow(int way) {
        if (stage.out == 0) {
            return chancesAtStart(way);
        }
        Chances chances = fromNow[way];
        if (!chances.fresh) {
            reckoner.beginAtStage(way);
            reckoner.reckon(chances, treeOfNow());
        }
        return chances;
    }

    private Chances chancesAtStart(int way) {
        Chances chances = fromStart[way];
        if (!chances.fresh) {
            reckoner.beginAtStart(way, stage.groupAt);
            reckoner.reckon(chances, treeOfNow());
        }
        return chances;
    }

    public long apart(int one, int other, int what) {
        boolean none = !isWay(one) || !isWay(other) || one == other || what < 0 || what > 5;
        if (none || draws.lawfulOnes == 0) {
            return Long.MIN_VALUE;
        }
        Chances first = chancesAtStart(one);
        Chances second = chancesAtStart(other);
        int pair = farthest(first, second);
        switch (what) {
            case 0:
                return sizeOfFarthest(first, second);
            case 1:
                return sumOfFar(first, second);
            case 2:
                return pair == NONE ? NONE : pair / MOST_TEAMS;
            case 3:
                return pair == NONE ? NONE : pair % MOST_TEAMS;
            case 4:
                return pair == NONE ? 0 : far(first, second, pair / MOST_TEAMS, pair % MOST_TEAMS);
            default:
                return first.rows * second.rows;
        }
    }

    private static long far(Chances first, Chances second, int a, int b) {
        return first.ofPair(a, b) * second.rows - second.ofPair(a, b) * first.rows;
    }

    /** The first of the pairs that are farthest, as its lesser team times twelve and the other. */
    private int farthest(Chances first, Chances second) {
        int found = NONE;
        long most = NONE;
        for (int a = 0; a < plan.teams; a++) {
            for (int b = plan.nextPotAfter(a); b < plan.teams; b++) {
                long size = Math.abs(far(first, second, a, b));
                if (size > most) {
                    most = size;
                    found = a * MOST_TEAMS + b;
                }
            }
        }
        return found;
    }

    private long sumOfFar(Chances first, Chances second) {
        long sum = 0;
        for (int a = 0; a < plan.teams; a++) {
            for (int b = plan.nextPotAfter(a); b < plan.teams; b++) {
                sum += Math.abs(far(first, second, a, b));
            }
        }
        return sum;
    }

    public int nearest(int what) {
        if (draws.lawfulOnes == 0) {
            return NO_LAWFUL;
        }
        Chances even = chancesAtStart(EVEN);
        if (what == 0) {
            nearestOrder = nearestOrder == STALE ? findNearest(plan.pots, true, even) : nearestOrder;
            return nearestOrder;
        }
        if (what == 1) {
            nearestArrangement = nearestArrangement == STALE ? findNearest(plan.groups, false, even)
                    : nearestArrangement;
            return nearestArrangement;
        }
        return NONE;
    }

    private int findNearest(int n, boolean ofPots, Chances even) {
        int[] turns = new int[MOST_POTS];
        int found = 0;
        long least = Long.MAX_VALUE;
        for (int row = 0; row < 1 << 2 * n && least > 0; row++) {
            if (Ranks.readRow(row, n, turns) && (ofPots || !likeAnEarlierOne(turns))) {
                long size = ofPots ? apartByOrder(turns, even) : apartByArrangement(turns, even);
                if (size < least) {
                    least = size;
                    found = bitsOf(turns, n);
                }
            }
        }
        return found;
    }

    /** Groups that no bar names are alike: of arrangements that differ in these alone the first will do. */
    private boolean likeAnEarlierOne(int[] turns) {
        int last = NONE;
        for (int i = 0; i < plan.groups; i++) {
            if (!plan.isGroupNamed(turns[i])) {
                if (turns[i] < last) {
                    return true;
                }
                last = turns[i];
            }
        }
        return false;
    }

    private long apartByOrder(int[] potAt, Chances even) {
        treeTried.build(potAt);
        reckoner.beginAtStart(SKIP, stage.groupAt);
        reckoner.reckon(tried, treeTried);
        return sizeOfFarthest(tried, even);
    }

    private long apartByArrangement(int[] groupAt, Chances even) {
        reckoner.beginAtStart(SKIP, groupAt);
        reckoner.reckon(tried, treeOfNow());
        return sizeOfFarthest(tried, even);
    }

    private long sizeOfFarthest(Chances first, Chances second) {
        int pair = farthest(first, second);
        return pair == NONE ? 0 : Math.abs(far(first, second, pair / MOST_TEAMS, pair % MOST_TEAMS));
    }

    private static int bitsOf(int[] turns, int n) {
        int bits = 0;
        for (int i = 0; i < n && i < turns.length; i++) {
            bits |= turns[i] << 2 * i;
        }
        return bits;
    }

    public int leads(int row) {
        if (!isCode(row) || draws.lawfulOnes == 0) {
            return NONE;
        }
        Tree tree = treeOfNow();
        int code = 0;
        int prefix = 0;
        for (int level = 0; level < plan.pots; level++) {
            int balls = draws.rankIn(row, level);
            int open = tree.ranksOpen(level, prefix);
            for (int i = 0; i < plan.groups; i++) {
                open = ranks.firstOpen(open, ranks.groupAt(balls, i), stage.groupAt);
            }
            int rank = Ranks.only(open);
            code += rank * draws.step[stage.potAt[level]];
            prefix = prefix * ranks.many + rank;
        }
        return code;
    }

    public long moves(int bar, int a, int b) {
        if (!isBar(bar) || !isTeam(a) || !isTeam(b) || a == b) {
            return Long.MIN_VALUE;
        }
        long with = barTable.pairsWithout(NONE, NONE, a, b);
        long without = barTable.pairsWithout(bar, NONE, a, b);
        return with * draws.within[1 << bar] - without * draws.lawfulOnes;
    }

    public int leave(int of100) {
        if (of100 < 0 || of100 > 100) {
            return NONE;
        }
        if (barTable.isEvenEnough(NONE, NONE, of100)) {
            return 0;
        }
        for (int bar = 0; bar < plan.bars; bar++) {
            if (barTable.isEvenEnough(bar, NONE, of100)) {
                return 1 << bar;
            }
        }
        for (int high = 1; high < plan.bars; high++) {
            for (int low = 0; low < high; low++) {
                if (barTable.isEvenEnough(low, high, of100)) {
                    return 1 << high | 1 << low;
                }
            }
        }
        return NONE;
    }

    public int parts(int what) {
        switch (what) {
            case 0:
                return swaps.howManyParts();
            case 1:
                return swaps.sizeOfFirstPart();
            case 2:
                return swaps.sizeOfGreatestPart();
            default:
                return NONE;
        }
    }

    public int mix(int n, int code) {
        if (n < 0 || n > MOST_MIX || !isCode(code) || draws.lawfulOnes == 0) {
            return NONE;
        }
        return swaps.rowsTo(n, code);
    }

    public long mixed(int n, int what) {
        if (n < 0 || n > MOST_MIX || draws.lawfulOnes == 0) {
            return NONE;
        }
        if (what == 0) {
            return swaps.uneven(n);
        }
        return what == 1 ? swaps.allRows(n) * draws.lawfulOnes : NONE;
    }

    public int run(int seed, int team) {
        if (seed < 0 || !isTeam(team) || draws.lawfulOnes == 0) {
            return NONE;
        }
        if (!treeInTurn.fresh) {
            treeInTurn.build(IN_TURN);
        }
        int last = plan.potOf(team);
        int number = seed;
        int prefix = 0;
        int open = 0;
        for (int pot = 0; pot <= last; pot++) {
            open = treeInTurn.ranksOpen(pot, prefix);
            int left = (1 << plan.groups) - 1;
            for (int balls = plan.groups; balls > 0; balls--) {
                number = numberAfter(number);
                int place = nthOf(left, (number >>> 16) % balls);
                left &= ~(1 << place);
                open = ranks.firstOpen(open, place, IN_TURN);
            }
            prefix = prefix * ranks.many + Ranks.only(open);
        }
        return ranks.groupWith(open, plan.placeOf(team));
    }

    private static int numberAfter(int number) {
        return number * 1103515245 + 12345 & Integer.MAX_VALUE;
    }

    /** The place of the bit that has n set ones below it. */
    private static int nthOf(int bits, int n) {
        int below = 0;
        for (int i = 0; i < MOST_GROUPS; i++) {
            if ((bits >>> i & 1) != 0) {
                if (below == n) {
                    return i;
                }
                below++;
            }
        }
        return 0;
    }

    public int evenly(int seed, int what) {
        int ones = draws.lawfulOnes;
        if (seed < 0 || what < 0 || what > 2 || ones <= 0) {
            return NONE;
        }
        long two31 = 1L << 31;
        long limit = two31 - two31 % ones;
        int number = numberAfter(seed);
        int came = 1;
        for (int k = 0; k < 1000000 && number >= limit; k++) {
            number = numberAfter(number);
            came++;
        }
        if (what == 0) {
            return number % ones;
        }
        return what == 1 ? came : number;
    }

    public int look(int team, int what) throws IndexOutOfBoundsException, NoSuchElementException {
        if (!isTeam(team)) {
            throw new IndexOutOfBoundsException("no such team");
        }
        if (what != 0 && what != 1) {
            throw new NoSuchElementException("no such what");
        }
        return what == 0 ? plan.potOf(team) : plan.marksOf[team];
    }

    public int count(int what) {
        switch (what) {
            case 0:
                return plan.groups;
            case 1:
                return plan.pots;
            case 2:
                return plan.teams;
            case 3:
                return plan.marks;
            case 4:
                return plan.bars;
            case 5:
                return stage.out;
            case 6:
                return draws.total;
            default:
                return NONE;
        }
    }

    /** What a text tells. Every pot has as many teams as there are groups, so a team's number tells its pot. */
    private static final class Plan {
        /** A nibble a group: how many teams of a bar it may hold; seven are always few enough. */
        private static final int ONES = 0x1111;

        private int groups;
        private int pots;
        private int teams;
        private int marks;
        private int bars;
        private final int[] teamNames = new int[MOST_TEAMS];
        private final int[] marksOf = new int[MOST_TEAMS];
        private final int[] markNames = new int[MOST_MARKS];
        private final int[] barTeams = new int[MOST_BARS];
        private final int[] barRooms = new int[MOST_BARS];
        private int groupsNamed;

        Plan() {
            groups = 2;
        }

        void forget() {
            groups = 2;
            pots = 0;
            teams = 0;
            marks = 0;
            bars = 0;
            groupsNamed = 0;
        }

        void take(Plan other) {
            groups = other.groups;
            pots = other.pots;
            teams = other.teams;
            marks = other.marks;
            bars = other.bars;
            groupsNamed = other.groupsNamed;
            System.arraycopy(other.teamNames, 0, teamNames, 0, MOST_TEAMS);
            System.arraycopy(other.marksOf, 0, marksOf, 0, MOST_TEAMS);
            System.arraycopy(other.markNames, 0, markNames, 0, MOST_MARKS);
            System.arraycopy(other.barTeams, 0, barTeams, 0, MOST_BARS);
            System.arraycopy(other.barRooms, 0, barRooms, 0, MOST_BARS);
        }

        void addTeam(int name) {
            if (teams < MOST_TEAMS) {
                teamNames[teams] = name;
                marksOf[teams] = 0;
                teams++;
            }
        }

        void addMark(int name) {
            if (marks < MOST_MARKS) {
                markNames[marks] = name;
                marks++;
            }
        }

        int teamNamed(int name) {
            return find(teamNames, teams, name);
        }

        int markNamed(int name) {
            return find(markNames, marks, name);
        }

        private static int find(int[] names, int n, int name) {
            for (int i = 0; i < n && i < names.length; i++) {
                if (names[i] == name) {
                    return i;
                }
            }
            return NONE;
        }

        int potOf(int team) {
            return groups > 0 ? team / groups : 0;
        }

        int placeOf(int team) {
            return groups > 0 ? team % groups : 0;
        }

        int nextPotAfter(int team) {
            return (potOf(team) + 1) * groups;
        }

        boolean isGroupNamed(int group) {
            return (groupsNamed >>> group & 1) != 0;
        }

        int teamsMarked(int mark) {
            int bits = 0;
            for (int team = 0; team < teams; team++) {
                bits |= (marksOf[team] >>> mark & 1) << team;
            }
            return bits;
        }

        void addAtMost(int n, int teamBits) {
            addBar(teamBits, n * ONES);
        }

        void addNever(int team, int group) {
            groupsNamed |= 1 << group;
            addBar(1 << team, 7 * ONES & ~(15 << 4 * group));
        }

        void addFixed(int team, int group) {
            groupsNamed |= 1 << group;
            addBar(1 << team, 7 << 4 * group);
        }

        /** Each bar is one kind: no group holds more teams of a set than it has room for. */
        private void addBar(int teamBits, int rooms) {
            if (bars < MOST_BARS) {
                barTeams[bars] = teamBits;
                barRooms[bars] = rooms;
                bars++;
            }
        }
    }

    /** Reads a text into a plan of its own, up to the first fault. */
    private static final class Reader {
        private static final int END = 0;
        private static final int WORD = 1;
        private static final int NUMBER = 2;
        private static final int STOP = 3;
        private static final int OTHER = 4;
        private static final int CANT_STAND = 1;
        private static final int TOO_MUCH = 2;
        private static final int TOLD = 3;
        private static final int NOT_TOLD = 4;
        private static final int POT_TOO_SMALL = 5;
        private static final int MOST_LETTERS = 6;
        private static final int HUGE = 1000;
        /** Words as numbers: five bits a letter, the first one highest of six. */
        private static final int GROUPS = 7 << 25 | 18 << 20 | 15 << 15 | 21 << 10 | 16 << 5 | 19;
        private static final int POT = 16 << 25 | 15 << 20 | 20 << 15;
        private static final int MARK = 13 << 25 | 1 << 20 | 18 << 15 | 11 << 10;
        private static final int ATMOST = 1 << 25 | 20 << 20 | 13 << 15 | 15 << 10 | 19 << 5 | 20;
        private static final int APART = 1 << 25 | 16 << 20 | 1 << 15 | 18 << 10 | 20 << 5;
        private static final int NEVER = 14 << 25 | 5 << 20 | 22 << 15 | 5 << 10 | 18 << 5;
        private static final int FIXED = 6 << 25 | 9 << 20 | 24 << 15 | 5 << 10 | 4 << 5;

        private final int[] signs;
        private final Plan plan = new Plan();
        private int fault;
        private int place = NONE;
        private int length;
        private int at;
        private int kind;
        private int start;
        private int value;

        Reader(int[] signs) {
            this.signs = signs;
        }

        int readLines(int n) {
            length = Math.min(n, signs.length);
            at = 0;
            fault = 0;
            place = NONE;
            plan.forget();
            step();
            int lines = 0;
            for (int k = 0; k <= length && kind != END && fault == 0; k++) {
                if (readLine(lines == 0)) {
                    lines++;
                }
            }
            return lines;
        }

        private boolean fail(int number) {
            fault = number;
            place = start;
            return false;
        }

        private void step() {
            while (at < length && isBlank(signs[at])) {
                at++;
            }
            start = at;
            if (at >= length) {
                kind = END;
            } else if (isLetter(signs[at])) {
                stepWord();
            } else if (isDigit(signs[at])) {
                stepNumber();
            } else {
                kind = signs[at] == ';' ? STOP : OTHER;
                at++;
            }
        }

        private void stepWord() {
            int letters = 0;
            value = 0;
            for (; at < length && isLetter(signs[at]); at++) {
                if (letters < MOST_LETTERS) {
                    value |= signs[at] - 'a' + 1 << 25 - 5 * letters;
                }
                letters++;
            }
            kind = letters <= MOST_LETTERS ? WORD : OTHER;
        }

        private void stepNumber() {
            value = 0;
            for (; at < length && isDigit(signs[at]); at++) {
                value = Math.min(value * 10 + signs[at] - '0', HUGE);
            }
            kind = NUMBER;
        }

        private static boolean isBlank(int sign) {
            return sign == 10 || sign == 32;
        }

        private static boolean isLetter(int sign) {
            return sign >= 'a' && sign <= 'z';
        }

        private static boolean isDigit(int sign) {
            return sign >= '0' && sign <= '9';
        }

        private boolean readLine(boolean first) {
            return readUpToStop(first) && readStop();
        }

        private boolean readUpToStop(boolean first) {
            if (kind != WORD || first && value != GROUPS) {
                return fail(CANT_STAND);
            }
            if (first) {
                return readGroups();
            }
            switch (value) {
                case GROUPS:
                    return fail(TOLD);
                case POT:
                    return readPot();
                case MARK:
                    return readMark();
                case ATMOST:
                    return isRoomForBar() && readAtMost();
                case APART:
                    return isRoomForBar() && readApart();
                case NEVER:
                    return isRoomForBar() && readHeld(false);
                case FIXED:
                    return isRoomForBar() && readHeld(true);
                default:
                    return fail(CANT_STAND);
            }
        }

        private boolean readGroups() {
            step();
            if (!isNumber(2, MOST_GROUPS)) {
                return false;
            }
            plan.groups = value;
            step();
            return true;
        }

        private boolean readPot() {
            if (plan.pots == MOST_POTS || plan.teams + plan.groups > MOST_TEAMS) {
                return fail(TOO_MUCH);
            }
            step();
            int teams = 0;
            for (int k = 0; k < length && (teams == 0 || kind != STOP); k++) {
                if (!isName()) {
                    return false;
                }
                if (teams == plan.groups) {
                    return fail(TOO_MUCH);
                }
                if (plan.teamNamed(value) != NONE) {
                    return fail(TOLD);
                }
                plan.addTeam(value);
                teams++;
                step();
            }
            if (teams < plan.groups) {
                return fail(POT_TOO_SMALL);
            }
            plan.pots++;
            return true;
        }

        private boolean readMark() {
            if (plan.marks == MOST_MARKS) {
                return fail(TOO_MUCH);
            }
            step();
            if (!isName()) {
                return false;
            }
            if (plan.markNamed(value) != NONE) {
                return fail(TOLD);
            }
            int bit = 1 << plan.marks;
            plan.addMark(value);
            step();
            int teams = 0;
            for (int k = 0; k < length && (teams == 0 || kind != STOP); k++) {
                int team = readTeam();
                if (team == NONE) {
                    return false;
                }
                if ((plan.marksOf[team] & bit) != 0) {
                    return fail(TOLD);
                }
                plan.marksOf[team] |= bit;
                teams++;
                step();
            }
            return true;
        }

        private boolean isRoomForBar() {
            return plan.bars < MOST_BARS || fail(TOO_MUCH);
        }

        private boolean readAtMost() {
            step();
            if (!isNumber(1, 3)) {
                return false;
            }
            int most = value;
            step();
            if (!isName()) {
                return false;
            }
            int mark = plan.markNamed(value);
            if (mark == NONE) {
                return fail(NOT_TOLD);
            }
            plan.addAtMost(most, plan.teamsMarked(mark));
            step();
            return true;
        }

        private boolean readApart() {
            step();
            int one = readTeam();
            if (one == NONE) {
                return false;
            }
            step();
            int other = readTeam();
            if (other == NONE) {
                return false;
            }
            if (other == one) {
                return fail(TOLD);
            }
            plan.addAtMost(1, 1 << one | 1 << other);
            step();
            return true;
        }

        private boolean readHeld(boolean fixed) {
            step();
            int team = readTeam();
            if (team == NONE) {
                return false;
            }
            step();
            if (!isNumber(0, plan.groups - 1)) {
                return false;
            }
            if (fixed) {
                plan.addFixed(team, value);
            } else {
                plan.addNever(team, value);
            }
            step();
            return true;
        }

        private boolean readStop() {
            if (kind != STOP) {
                return fail(CANT_STAND);
            }
            step();
            return true;
        }

        private boolean isNumber(int least, int most) {
            if (kind != NUMBER) {
                return fail(CANT_STAND);
            }
            return value >= least && value <= most || fail(TOO_MUCH);
        }

        private boolean isName() {
            return kind == WORD && !isOfLanguage(value) || fail(CANT_STAND);
        }

        private static boolean isOfLanguage(int word) {
            switch (word) {
                case GROUPS:
                case POT:
                case MARK:
                case ATMOST:
                case APART:
                case NEVER:
                case FIXED:
                    return true;
                default:
                    return false;
            }
        }

        /** The team that the token names; NONE, and a fault is told, if it names none. */
        private int readTeam() {
            if (!isName()) {
                return NONE;
            }
            int team = plan.teamNamed(value);
            if (team == NONE) {
                fail(NOT_TOLD);
            }
            return team;
        }
    }

    /** All rows of unlike groups for the teams of a pot, by rank. Sets of ranks are bits of a number. */
    private static final class Ranks {
        private int groups;
        private int many;
        private int everyRank;
        private int swapsAPot;
        private final int[] groupOf = new int[MOST_RANKS * MOST_GROUPS];
        private final int[] placeIn = new int[MOST_RANKS * MOST_GROUPS];
        /** By place in the pot and group: the ranks that put it there. */
        private final int[] having = new int[MOST_GROUPS * MOST_GROUPS];
        private final int[] swapped = new int[MOST_RANKS * MOST_SWAPS];
        private final int[] row = new int[MOST_GROUPS];

        void set(int n) {
            if (n == groups || n < 1 || n > MOST_GROUPS) {
                return;
            }
            groups = n;
            many = 0;
            Arrays.fill(having, 0);
            for (int number = 0; number < 1 << 2 * n; number++) {
                if (many < MOST_RANKS && readRow(number, n, row)) {
                    addRow();
                }
            }
            everyRank = (1 << many) - 1;
            for (int rank = 0; rank < many; rank++) {
                setSwaps(rank);
            }
        }

        /** Takes n numbers of two bits, the first highest, if they are unlike and below n. */
        static boolean readRow(int number, int n, int[] into) {
            int seen = 0;
            for (int i = 0; i < n && i < into.length; i++) {
                into[i] = number >>> 2 * (n - 1 - i) & 3;
                seen |= 1 << into[i];
            }
            return seen == (1 << n) - 1;
        }

        private void addRow() {
            for (int i = 0; i < groups; i++) {
                int group = row[i];
                groupOf[many * MOST_GROUPS + i] = group;
                placeIn[many * MOST_GROUPS + group] = i;
                having[i * MOST_GROUPS + group] |= 1 << many;
            }
            many++;
        }

        private void setSwaps(int rank) {
            int swap = 0;
            for (int g = 0; g < groups; g++) {
                for (int h = g + 1; h < groups; h++) {
                    swapped[rank * MOST_SWAPS + swap] = rankWithSwapped(rank, g, h);
                    swap++;
                }
            }
            swapsAPot = swap;
        }

        private int rankWithSwapped(int rank, int g, int h) {
            int fitting = everyRank;
            for (int i = 0; i < groups; i++) {
                int was = groupAt(rank, i);
                int group = was == g ? h : was == h ? g : was;
                fitting &= having[i * MOST_GROUPS + group];
            }
            return only(fitting);
        }

        int groupAt(int rank, int place) {
            return groupOf[rank * MOST_GROUPS + place];
        }

        /** The rank of a set that has but one; of the empty set 0, so that it may always be an index. */
        static int only(int bits) {
            return bits == 0 ? 0 : Integer.bitCount((bits & -bits) - 1);
        }

        /** Those ranks of a set that put a place in the first group in which any of them puts it. */
        int firstOpen(int open, int place, int[] groupAt) {
            for (int k = 0; k < groups; k++) {
                int fitting = open & having[place * MOST_GROUPS + groupAt[k]];
                if (fitting != 0) {
                    return fitting;
                }
            }
            return 0;
        }

        /** The group in which all ranks of a set put a place; NONE for the empty set. */
        int groupWith(int fitting, int place) {
            return fitting == 0 ? NONE : groupAt(only(fitting), place);
        }
    }

    /** All draws by their codes, and which bars each breaks. */
    private static final class Draws {
        /** A nibble's top bit tells that a group is too full. */
        private static final int TOP_BITS = 0x8888;

        private final Plan plan;
        private final Ranks ranks;
        private int total;
        private int lawfulOnes;
        /** By pot: how much one rank of it adds to a code. */
        private final int[] step = new int[MOST_POTS];
        private int[] broken = new int[1];
        private int[] lawfulCodes = new int[1];
        /** By a set of bars: how many draws break none but these. */
        private final int[] within = new int[1 << MOST_BARS];
        private final int[] withinSome = new int[1 << MOST_BARS];
        /** By pot and rank: a nibble a group, how many teams of the bar in hand it gets. */
        private final int[] held = new int[MOST_POTS * MOST_RANKS];

        Draws(Plan plan, Ranks ranks) {
            this.plan = plan;
            this.ranks = ranks;
        }

        void renew() {
            total = 1;
            for (int pot = plan.pots - 1; pot >= 0; pot--) {
                step[pot] = total;
                total *= ranks.many;
            }
            if (broken.length < total) {
                broken = new int[total];
                lawfulCodes = new int[total];
            }
            Arrays.fill(broken, 0, total, 0);
            if (plan.pots > 0) {
                for (int bar = 0; bar < plan.bars; bar++) {
                    tellHeld(plan.barTeams[bar]);
                    breakBar(1 << bar, 7 * Plan.ONES - plan.barRooms[bar]);
                }
            }
            listLawful();
            tellWithin();
        }

        private void tellHeld(int teamBits) {
            for (int pot = 0; pot < plan.pots; pot++) {
                int bits = teamBits >>> pot * plan.groups;
                for (int rank = 0; rank < ranks.many; rank++) {
                    int nibbles = 0;
                    for (int i = 0; i < plan.groups; i++) {
                        nibbles += (bits >>> i & 1) << 4 * ranks.groupAt(rank, i);
                    }
                    held[pot * MOST_RANKS + rank] = nibbles;
                }
            }
        }

        /** Adding what a group hasn't room for up to seven makes a nibble reach eight if it is too full. */
        private void breakBar(int bit, int start) {
            int last = (plan.pots - 1) * MOST_RANKS;
            int many = ranks.many;
            for (int base = 0; base < total && many > 0; base += many) {
                int sum = start;
                for (int pot = plan.pots - 2; pot >= 0; pot--) {
                    sum += held[pot * MOST_RANKS + rankIn(base, pot)];
                }
                for (int rank = 0; rank < many; rank++) {
                    if ((sum + held[last + rank] & TOP_BITS) != 0) {
                        broken[base + rank] |= bit;
                    }
                }
            }
        }

        private void listLawful() {
            lawfulOnes = 0;
            for (int code = 0; code < total; code++) {
                if (broken[code] == 0) {
                    lawfulCodes[lawfulOnes] = code;
                    lawfulOnes++;
                }
            }
        }

        private void tellWithin() {
            Arrays.fill(within, 0);
            for (int code = 0; code < total; code++) {
                within[broken[code]]++;
            }
            addUp(within, plan.bars);
        }

        /** From how many break just a set to how many break none but those of it. */
        private static void addUp(int[] sets, int bars) {
            for (int bar = 0; bar < bars; bar++) {
                int bit = 1 << bar;
                for (int set = 0; set < 1 << bars; set++) {
                    if ((set & bit) != 0) {
                        sets[set] += sets[set ^ bit];
                    }
                }
            }
        }

        /** The fewest bars that let no draw, of several the least bits. */
        private static int fewest(int[] sets, int bars) {
            int every = (1 << bars) - 1;
            int found = every;
            for (int set = 0; set <= every; set++) {
                if (sets[every ^ set] == 0 && Integer.bitCount(set) < Integer.bitCount(found)) {
                    found = set;
                }
            }
            return found;
        }

        int fewestAgainst(int[] allowed) {
            Arrays.fill(withinSome, 0);
            for (int code = 0; code < total; code++) {
                if (fits(code, allowed)) {
                    withinSome[broken[code]]++;
                }
            }
            addUp(withinSome, plan.bars);
            return fewest(withinSome, plan.bars);
        }

        int firstLawful(int[] allowed) {
            for (int k = 0; k < lawfulOnes; k++) {
                if (fits(lawfulCodes[k], allowed)) {
                    return lawfulCodes[k];
                }
            }
            return NONE;
        }

        private boolean fits(int code, int[] allowed) {
            for (int pot = 0; pot < plan.pots; pot++) {
                if ((allowed[pot] >>> rankIn(code, pot) & 1) == 0) {
                    return false;
                }
            }
            return true;
        }

        int rankIn(int code, int pot) {
            int each = step[pot];
            int many = ranks.many;
            return each > 0 && many > 0 ? code / each % many : 0;
        }

        int groupIn(int code, int team) {
            return ranks.groupAt(rankIn(code, plan.potOf(team)), plan.placeOf(team));
        }
    }

    /** Order, arrangement, and the balls that are out. */
    private static final class Stage {
        private static final int IN_IT = 0;
        private static final int FULL = 1;
        private static final int NONE_LAWFUL = 2;
        private static final int BEHIND = 3;

        private final Plan plan;
        private final Ranks ranks;
        private final int[] potAt = new int[MOST_POTS];
        private final int[] groupAt = new int[MOST_GROUPS];
        private final int[] groupOf = new int[MOST_TEAMS];
        private final int[] balls = new int[MOST_TEAMS];
        private int out;
        /** By pot: the ranks asked for by allow(). */
        private final int[] allowed = new int[MOST_POTS];

        Stage(Plan plan, Ranks ranks) {
            this.plan = plan;
            this.ranks = ranks;
        }

        void putInTurn() {
            System.arraycopy(IN_TURN, 0, potAt, 0, MOST_POTS);
            System.arraycopy(IN_TURN, 0, groupAt, 0, MOST_GROUPS);
            empty();
        }

        void empty() {
            out = 0;
            Arrays.fill(groupOf, NONE);
        }

        void put(int team, int group) {
            if (out < MOST_TEAMS) {
                groupOf[team] = group;
                balls[out] = team;
                out++;
            }
        }

        void takeBack() {
            if (out > 0) {
                out--;
                groupOf[balls[out]] = NONE;
            }
        }

        int latest() {
            return out > 0 ? balls[out - 1] : NONE;
        }

        int fullPots() {
            return plan.potOf(out);
        }

        /** How many balls of the pot begun are out. */
        int begun() {
            return plan.placeOf(out);
        }

        int potInTurn() {
            return out < plan.teams ? potAt[fullPots()] : NONE;
        }

        /** The ranks of a pot that leave its placed teams where they are. */
        int ranksLeft(int pot) {
            return ranksIf(pot, NONE, NONE);
        }

        int placesLeft(int pot) {
            int places = 0;
            for (int i = 0; i < plan.groups; i++) {
                if (groupOf[pot * plan.groups + i] == NONE) {
                    places |= 1 << i;
                }
            }
            return places;
        }

        private int ranksIf(int pot, int team, int group) {
            int fitting = ranks.everyRank;
            for (int i = 0; i < plan.groups; i++) {
                int each = pot * plan.groups + i;
                int where = each == team ? group : groupOf[each];
                if (where != NONE) {
                    fitting &= ranks.having[i * MOST_GROUPS + where];
                }
            }
            return fitting;
        }

        /** Tells in allowed which ranks fit those placed, if one team were in a group. */
        void allow(int team, int group) {
            for (int pot = 0; pot < plan.pots; pot++) {
                allowed[pot] = ranksIf(pot, team, group);
            }
        }

        int rankAtLevel(int level) {
            return Ranks.only(ranksLeft(potAt[level]));
        }

        /** The full pots' ranks as one number, as Tree counts them. */
        int prefix() {
            int prefix = 0;
            int full = fullPots();
            for (int level = 0; level < full; level++) {
                prefix = prefix * ranks.many + rankAtLevel(level);
            }
            return prefix;
        }

        int reason(int group) {
            if (out == 0) {
                return NONE;
            }
            int team = latest();
            int got = groupOf[team];
            if (got == group) {
                return IN_IT;
            }
            for (int k = 0; k < plan.groups; k++) {
                if (groupAt[k] == got) {
                    return BEHIND;
                }
                if (groupAt[k] == group) {
                    break;
                }
            }
            int first = plan.potOf(team) * plan.groups;
            for (int i = 0; i < plan.groups; i++) {
                if (groupOf[first + i] == group) {
                    return FULL;
                }
            }
            return NONE_LAWFUL;
        }

        /** Rows of the balls left, by the rows that so many balls of a pot have. */
        long rowsLeft(int[] rowsOf) {
            long rows = 1;
            int full = fullPots();
            for (int level = full; level < plan.pots; level++) {
                int left = level == full ? plan.groups - begun() : plan.groups;
                rows *= rowsOf[left];
            }
            return rows;
        }
    }

    /** For an order of pots: which ranks of the next pot some lawful draw has behind the ranks of those ahead. */
    private static final class Tree {
        /** One set for each row of ranks of less than all pots: 1 + 24 + 24 * 24 at most. */
        private static final int MOST_SETS = 601;

        private final Draws draws;
        private final int[] sets = new int[MOST_SETS];
        private final int[] from = new int[MOST_POTS + 1];
        private final int[] potAt = new int[MOST_POTS];
        private boolean fresh;

        Tree(Draws draws) {
            this.draws = draws;
        }

        int ranksOpen(int level, int prefix) {
            if (level < 0 || level >= MOST_POTS || prefix < 0) {
                return 0;
            }
            int at = from[level] + prefix;
            return at < MOST_SETS ? sets[at] : 0;
        }

        void build(int[] inOrder) {
            System.arraycopy(inOrder, 0, potAt, 0, MOST_POTS);
            int pots = draws.plan.pots;
            int width = 1;
            from[0] = 0;
            for (int level = 0; level < pots; level++) {
                from[level + 1] = from[level] + width;
                width *= draws.ranks.many;
            }
            if (pots > 0) {
                fillLast();
            }
            for (int level = pots - 2; level >= 0; level--) {
                fillFromNext(level);
            }
            fresh = true;
        }

        private void fillLast() {
            int last = draws.plan.pots - 1;
            int many = draws.ranks.many;
            int each = draws.step[potAt[last]];
            for (int at = from[last]; at < from[last + 1]; at++) {
                int code = codeOf(at - from[last], last);
                int open = 0;
                for (int rank = 0; rank < many; rank++) {
                    if (draws.broken[code] == 0) {
                        open |= 1 << rank;
                    }
                    code += each;
                    if (code >= draws.total) {
                        break;
                    }
                }
                sets[at] = open;
            }
        }

        private int codeOf(int prefix, int levels) {
            int many = draws.ranks.many;
            int code = 0;
            int rest = prefix;
            for (int level = levels - 1; level >= 0 && many > 0; level--) {
                code += rest % many * draws.step[potAt[level]];
                rest /= many;
            }
            return code;
        }

        private void fillFromNext(int level) {
            int many = draws.ranks.many;
            int next = from[level + 1];
            for (int at = from[level]; at < from[level + 1]; at++) {
                int open = 0;
                for (int rank = 0; rank < many; rank++) {
                    if (sets[next] != 0) {
                        open |= 1 << rank;
                    }
                    next++;
                }
                sets[at] = open;
            }
        }
    }

    /** Within one pot: how many rows of its balls lead to each rank, and so to each place. */
    private static final class Spread {
        private static final int SLOTS = 64;
        private static final int CELLS = MOST_GROUPS * MOST_GROUPS;

        private final Ranks ranks;
        private int way;
        private final int[] groupAt = new int[MOST_GROUPS];
        private final long[] rows = new long[MOST_RANKS];
        /** Full pots with the same open ranks are met again and again: their tables are kept by these. */
        private final int[] keys = new int[SLOTS];
        private final long[] tables = new long[(SLOTS + 1) * CELLS];

        Spread(Ranks ranks) {
            this.ranks = ranks;
        }

        void begin(int newWay, int[] arrangement) {
            way = newWay;
            System.arraycopy(arrangement, 0, groupAt, 0, MOST_GROUPS);
            Arrays.fill(keys, 0);
        }

        /** The slot for a set of open ranks; that behind the others if the pot is begun. */
        int slotOf(int open, int left) {
            return left == (1 << ranks.groups) - 1 ? open * 0x9E3779B1 >>> 26 : SLOTS;
        }

        boolean isKept(int slot, int open) {
            return slot < SLOTS && keys[slot] == open;
        }

        /** Keeps rows in a slot's table, by place in the pot and group. */
        void keepRows(int slot, int open) {
            if (slot < SLOTS) {
                keys[slot] = open;
            }
            int start = slot * CELLS;
            Arrays.fill(tables, start, start + CELLS, 0);
            for (int rank = 0; rank < ranks.many; rank++) {
                if (rows[rank] != 0) {
                    for (int i = 0; i < ranks.groups; i++) {
                        tables[start + i * MOST_GROUPS + ranks.groupAt(rank, i)] += rows[rank];
                    }
                }
            }
        }

        /** Tells in rows how many lead to each of the open ranks. */
        void fillRows(int open, int left) {
            Arrays.fill(rows, 0);
            int balls = Integer.bitCount(left);
            if (way == EVEN) {
                for (int rank = 0; rank < ranks.many; rank++) {
                    rows[rank] = open >>> rank & 1;
                }
            } else if (way == SKIP) {
                skip(open, left, balls);
            } else {
                field(open, left, balls, 1);
            }
        }

        /** When one rank alone is open, all rows of the balls left lead to it. */
        private void skip(int open, int left, int balls) {
            if ((open & open - 1) == 0 || balls <= 0) {
                rows[Ranks.only(open)] += SKIP_ROWS[balls];
                return;
            }
            for (int i = 0; i < ranks.groups; i++) {
                if ((left >>> i & 1) != 0) {
                    skip(ranks.firstOpen(open, i, groupAt), left & ~(1 << i), balls - 1);
                }
            }
        }

        private void field(int open, int left, int balls, long weight) {
            if ((open & open - 1) == 0 || balls <= 0) {
                rows[Ranks.only(open)] += weight * FIELD_ROWS[balls];
                return;
            }
            for (int i = 0; i < ranks.groups; i++) {
                if ((left >>> i & 1) != 0) {
                    int groups = groupsOpen(open, i);
                    if (groups > 0) {
                        fieldBall(open, left, balls, weight * (SHARES[balls] / groups), i);
                    }
                }
            }
        }

        private void fieldBall(int open, int left, int balls, long weight, int place) {
            for (int group = 0; group < ranks.groups; group++) {
                int fitting = open & ranks.having[place * MOST_GROUPS + group];
                if (fitting != 0) {
                    field(fitting, left & ~(1 << place), balls - 1, weight);
                }
            }
        }

        private int groupsOpen(int open, int place) {
            int groups = 0;
            for (int group = 0; group < ranks.groups; group++) {
                if ((open & ranks.having[place * MOST_GROUPS + group]) != 0) {
                    groups++;
                }
            }
            return groups;
        }
    }

    /** Rows of one way in which pairs are together and teams are in groups. */
    private static final class Chances {
        private final long[] pairs = new long[MOST_TEAMS * MOST_TEAMS];
        private final long[] places = new long[MOST_TEAMS * MOST_GROUPS];
        private long rows;
        private boolean fresh;

        void forget() {
            Arrays.fill(pairs, 0);
            Arrays.fill(places, 0);
            rows = 0;
        }

        /** A pair is counted at one of its two cells, by which of the pots came first. */
        long ofPair(int a, int b) {
            return pairs[a * MOST_TEAMS + b] + pairs[b * MOST_TEAMS + a];
        }

        long ofPlace(int team, int group) {
            return places[team * MOST_GROUPS + group];
        }
    }

    /** Goes through all rows of ranks of all pots but the last one, and adds up what each leads to. */
    private static final class Reckoner {
        private final Plan plan;
        private final Ranks ranks;
        private final Stage stage;
        private final Spread spread;
        private final int[] rankAt = new int[MOST_POTS];
        private final long[] rowsAt = new long[MOST_POTS * MOST_RANKS];
        private int firstLevel;
        private int firstPrefix;
        private int firstOpen;
        private int firstLeft;

        Reckoner(Draws draws, Stage stage) {
            this.plan = draws.plan;
            this.ranks = draws.ranks;
            this.stage = stage;
            this.spread = new Spread(draws.ranks);
        }

        void beginAtStart(int way, int[] groupAt) {
            firstLevel = 0;
            firstPrefix = 0;
            firstOpen = ranks.everyRank;
            firstLeft = (1 << plan.groups) - 1;
            spread.begin(way, groupAt);
        }

        void beginAtStage(int way) {
            beginAtStart(way, stage.groupAt);
            firstLevel = stage.fullPots();
            firstPrefix = stage.prefix();
            for (int level = 0; level < firstLevel; level++) {
                rankAt[level] = stage.rankAtLevel(level);
            }
            int pot = stage.potInTurn();
            if (pot != NONE) {
                firstOpen = stage.ranksLeft(pot);
                firstLeft = stage.placesLeft(pot);
            }
        }

        void reckon(Chances chances, Tree tree) {
            chances.forget();
            if (firstLevel < plan.pots) {
                walk(chances, tree, firstLevel, firstPrefix, 1);
            } else {
                addAhead(chances, tree, plan.pots, 1);
            }
            chances.fresh = true;
        }

        private void walk(Chances chances, Tree tree, int level, int prefix, long weight) {
            if (level >= plan.pots) {
                return;
            }
            int open = tree.ranksOpen(level, prefix);
            int left = (1 << plan.groups) - 1;
            if (level == firstLevel) {
                open &= firstOpen;
                left = firstLeft;
            }
            if (level == plan.pots - 1) {
                int slot = spread.slotOf(open, left);
                if (!spread.isKept(slot, open)) {
                    spread.fillRows(open, left);
                    spread.keepRows(slot, open);
                }
                addLast(chances, tree, weight, slot * Spread.CELLS);
                return;
            }
            int kept = level * MOST_RANKS;
            spread.fillRows(open, left);
            System.arraycopy(spread.rows, 0, rowsAt, kept, MOST_RANKS);
            for (int rank = 0; rank < ranks.many; rank++) {
                if (rowsAt[kept + rank] != 0) {
                    rankAt[level] = rank;
                    walk(chances, tree, level + 1, prefix * ranks.many + rank, weight * rowsAt[kept + rank]);
                }
            }
        }

        /** Adds rows for teams of the first pots among themselves. */
        private void addAhead(Chances chances, Tree tree, int levels, long rows) {
            chances.rows += rows;
            for (int one = 0; one < levels; one++) {
                int first = tree.potAt[one] * plan.groups;
                for (int group = 0; group < plan.groups; group++) {
                    int a = first + ranks.placeIn[rankAt[one] * MOST_GROUPS + group];
                    chances.places[a * MOST_GROUPS + group] += rows;
                    for (int other = one + 1; other < levels; other++) {
                        int place = ranks.placeIn[rankAt[other] * MOST_GROUPS + group];
                        chances.pairs[a * MOST_TEAMS + tree.potAt[other] * plan.groups + place] += rows;
                    }
                }
            }
        }

        /** Adds rows of the last pot, a table of which stands in spread, and with them those of the pots ahead. */
        private void addLast(Chances chances, Tree tree, long weight, int table) {
            int ahead = plan.pots - 1;
            int first = tree.potAt[ahead] * plan.groups;
            long ofOne = 0;
            for (int group = 0; group < plan.groups; group++) {
                ofOne += spread.tables[table + group];
                for (int i = 0; i < plan.groups; i++) {
                    long rows = weight * spread.tables[table + i * MOST_GROUPS + group];
                    if (rows != 0) {
                        chances.places[(first + i) * MOST_GROUPS + group] += rows;
                        for (int level = 0; level < ahead; level++) {
                            int place = ranks.placeIn[rankAt[level] * MOST_GROUPS + group];
                            int a = tree.potAt[level] * plan.groups + place;
                            chances.pairs[a * MOST_TEAMS + first + i] += rows;
                        }
                    }
                }
            }
            addAhead(chances, tree, ahead, weight * ofOne);
        }
    }

    /** How many draws that break two bars at most have each pair, by the bars that they break. */
    private static final class BarTable {
        private static final int CELLS = MOST_TEAMS * MOST_TEAMS;

        private final Draws draws;
        private final Plan plan;
        private final Ranks ranks;
        private int[] pairs = new int[CELLS];
        private boolean fresh;

        BarTable(Draws draws) {
            this.draws = draws;
            this.plan = draws.plan;
            this.ranks = draws.ranks;
        }

        private void refresh() {
            if (fresh) {
                return;
            }
            int cells = firstKind(plan.bars) * CELLS;
            if (pairs.length < cells) {
                pairs = new int[cells];
            }
            Arrays.fill(pairs, 0);
            for (int code = 0; code < draws.total; code++) {
                int set = draws.broken[code];
                if (Integer.bitCount(set) <= 2) {
                    int low = set == 0 ? NONE : Ranks.only(set);
                    int rest = set & set - 1;
                    addDraw(code, kindOf(low, rest == 0 ? NONE : Ranks.only(rest)) * CELLS);
                }
            }
            fresh = true;
        }

        /** Kinds are numbered by their highest bar: it alone, then with each lower one. */
        private static int kindOf(int low, int high) {
            if (low == NONE) {
                return 0;
            }
            return high == NONE ? firstKind(low) : firstKind(high) + 1 + low;
        }

        private static int firstKind(int highest) {
            return 1 + highest * (highest + 1) / 2;
        }

        private void addDraw(int code, int start) {
            for (int p = 0; p < plan.pots; p++) {
                int one = draws.rankIn(code, p) * MOST_GROUPS;
                for (int q = p + 1; q < plan.pots; q++) {
                    int other = draws.rankIn(code, q) * MOST_GROUPS;
                    for (int group = 0; group < plan.groups; group++) {
                        int a = p * plan.groups + ranks.placeIn[one + group];
                        int b = q * plan.groups + ranks.placeIn[other + group];
                        pairs[start + a * MOST_TEAMS + b]++;
                    }
                }
            }
        }

        /** Lawful draws with a pair, if a lower and a higher bar (NONE: none) weren't. */
        long pairsWithout(int low, int high, int a, int b) {
            refresh();
            int cell = Math.min(a, b) * MOST_TEAMS + Math.max(a, b);
            long sum = pairs[cell];
            if (low != NONE) {
                sum += pairs[kindOf(low, NONE) * CELLS + cell];
            }
            if (high != NONE) {
                sum += pairs[kindOf(high, NONE) * CELLS + cell];
                sum += pairs[kindOf(low, high) * CELLS + cell];
            }
            return sum;
        }

        boolean isEvenEnough(int low, int high, int of100) {
            int set = (low == NONE ? 0 : 1 << low) | (high == NONE ? 0 : 1 << high);
            long ones = draws.within[set];
            if (ones == 0) {
                return false;
            }
            for (int a = 0; a < plan.teams; a++) {
                for (int b = plan.nextPotAfter(a); b < plan.teams; b++) {
                    if (pairsWithout(low, high, a, b) * 100 > of100 * ones) {
                        return false;
                    }
                }
            }
            return true;
        }
    }

    /** Lawful draws joined by swaps of two groups' teams of one pot. */
    private static final class Swaps {
        private final Draws draws;
        private final Ranks ranks;
        private int[] rows = new int[1];
        private int[] other = new int[1];
        /** How many swaps the rows are of; NONE: rows hold something else. */
        private int done = NONE;
        private boolean partsFresh;
        private int manyParts;
        private int firstPart;
        private int greatestPart;
        private int queued;

        Swaps(Draws draws) {
            this.draws = draws;
            this.ranks = draws.ranks;
        }

        void forget() {
            done = NONE;
            partsFresh = false;
        }

        int howManyParts() {
            findParts();
            return manyParts;
        }

        int sizeOfFirstPart() {
            findParts();
            return firstPart;
        }

        int sizeOfGreatestPart() {
            findParts();
            return greatestPart;
        }

        private void clearRows() {
            if (rows.length < draws.total) {
                rows = new int[draws.total];
                other = new int[draws.total];
            }
            Arrays.fill(rows, 0, draws.total, 0);
            done = NONE;
        }

        /** Here rows tell which draws have been met, and the other row has them as they are met. */
        private void findParts() {
            if (partsFresh) {
                return;
            }
            clearRows();
            manyParts = 0;
            firstPart = 0;
            greatestPart = 0;
            queued = 0;
            for (int k = 0; k < draws.lawfulOnes; k++) {
                if (rows[draws.lawfulCodes[k]] == 0) {
                    int size = sizeOfPart(draws.lawfulCodes[k]);
                    firstPart = manyParts == 0 ? size : firstPart;
                    greatestPart = Math.max(greatestPart, size);
                    manyParts++;
                }
            }
            partsFresh = true;
        }

        private int sizeOfPart(int code) {
            int start = queued;
            meet(code);
            for (int head = start; head < queued && head < draws.total; head++) {
                meetSwapped(other[head]);
            }
            return queued - start;
        }

        private void meet(int code) {
            if (rows[code] == 0 && queued < other.length) {
                rows[code] = 1;
                other[queued] = code;
                queued++;
            }
        }

        private void meetSwapped(int code) {
            for (int pot = 0; pot < draws.plan.pots; pot++) {
                int each = draws.step[pot];
                int rank = draws.rankIn(code, pot);
                int without = code - rank * each;
                for (int swap = 0; swap < ranks.swapsAPot; swap++) {
                    int to = without + ranks.swapped[rank * MOST_SWAPS + swap] * each;
                    if (draws.broken[to] == 0) {
                        meet(to);
                    }
                }
            }
        }

        int rowsTo(int n, int code) {
            swapTimes(n);
            return rows[code];
        }

        long allRows(int n) {
            long each = draws.plan.pots * ranks.swapsAPot;
            long all = 1;
            for (int k = 0; k < n; k++) {
                all *= each;
            }
            return all;
        }

        long uneven(int n) {
            swapTimes(n);
            long ones = draws.lawfulOnes;
            long all = allRows(n);
            long sum = 0;
            for (int k = 0; k < draws.lawfulOnes; k++) {
                sum += Math.abs(rows[draws.lawfulCodes[k]] * ones - all);
            }
            return sum;
        }

        private void swapTimes(int n) {
            if (done == NONE || done > n) {
                clearRows();
                rows[draws.lawfulCodes[0]] = 1;
                done = 0;
            }
            for (int k = done; k < n; k++) {
                swapOnce();
            }
            done = n;
        }

        private void swapOnce() {
            Arrays.fill(other, 0, draws.total, 0);
            for (int k = 0; k < draws.lawfulOnes; k++) {
                int code = draws.lawfulCodes[k];
                if (rows[code] != 0) {
                    pass(code, rows[code]);
                }
            }
            int[] was = rows;
            rows = other;
            other = was;
        }

        /** A swap that isn't lawful leaves the draw as it is. */
        private void pass(int code, int many) {
            for (int pot = 0; pot < draws.plan.pots; pot++) {
                int each = draws.step[pot];
                int rank = draws.rankIn(code, pot);
                int without = code - rank * each;
                for (int swap = 0; swap < ranks.swapsAPot; swap++) {
                    int to = without + ranks.swapped[rank * MOST_SWAPS + swap] * each;
                    other[draws.broken[to] == 0 ? to : code] += many;
                }
            }
        }
    }
}
