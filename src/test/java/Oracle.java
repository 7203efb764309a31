import java.util.ArrayDeque;
import java.util.ArrayList;
import java.util.Arrays;
import java.util.HashMap;
import java.util.HashSet;
import java.util.List;
import java.util.Map;
import java.util.NoSuchElementException;
import java.util.Set;
import java.util.TreeMap;
import java.util.regex.Matcher;
import java.util.regex.Pattern;

/**
 * The document once more, written as plainly and as unlike the class as can be: it goes through all
 * draws, all places of balls and all sets of bars one by one. It is slow and serves the tests alone.
 */
final class Oracle {
    static final int NONE = -1;
    private static final Set<String> LANGUAGE =
            Set.of("groups", "pot", "mark", "atmost", "apart", "never", "fixed");

    private record Token(int at, String text) {
        boolean isWord() {
            return text.matches("[a-z]{1,6}");
        }

        boolean isName() {
            return isWord() && !LANGUAGE.contains(text);
        }

        boolean isNumber() {
            return text.matches("[0-9]+");
        }

        boolean isBeyond(int least, int most) {
            String bare = text.replaceFirst("^0+(?=.)", "");
            return bare.length() > 3 || Integer.parseInt(bare) < least || Integer.parseInt(bare) > most;
        }
    }

    private record Bar(String kind, Set<Integer> teams, int number) {
        boolean holds(int[] draw, int groups) {
            int one = teams.isEmpty() ? 0 : teams.iterator().next();
            switch (kind) {
                case "never":
                    return draw[one] != number;
                case "fixed":
                    return draw[one] == number;
                default:
                    int most = kind.equals("apart") ? 1 : number;
                    for (int g = 0; g < groups; g++) {
                        int group = g;
                        if (teams.stream().filter(t -> draw[t] == group).count() > most) {
                            return false;
                        }
                    }
                    return true;
            }
        }
    }

    private final StringBuilder tape = new StringBuilder();
    private int faultKind = 0;
    private int faultPlace = NONE;
    private int groups = 2;
    private List<List<String>> pots = new ArrayList<>();
    private List<String> teams = new ArrayList<>();
    private List<String> marks = new ArrayList<>();
    private List<Set<Integer>> marked = new ArrayList<>();
    private List<Bar> bars = new ArrayList<>();
    private int[] order = {};
    private int[] arrangement = {0, 1};
    private final List<Integer> balls = new ArrayList<>();
    private final List<Integer> ballGroups = new ArrayList<>();
    private List<int[]> draws = new ArrayList<>();
    private List<int[]> lawfulDraws = new ArrayList<>();
    private final Map<Long, Integer> codes = new HashMap<>();
    private final Map<String, Ways> known = new HashMap<>();

    Oracle() {
        listDraws();
    }

    int feed(int a, int b, int c, int d, int e) {
        if (tape.length() + 20 > 400) {
            return NONE;
        }
        for (int number : new int[] {a, b, c, d, e}) {
            for (int k = 3; k >= 0; k--) {
                tape.append((char) (number >> 8 * k & 0xff));
            }
        }
        return tape.length();
    }

    // ---- the text

    private final class Faults {
        final TreeMap<Integer, Integer> byPlace = new TreeMap<>();

        void tell(int place, int kind) {
            byPlace.merge(place, kind, Math::min);
        }
    }

    private static List<Token> tokens(String text) {
        List<Token> list = new ArrayList<>();
        Matcher m = Pattern.compile("[a-z]+|[0-9]+|[^\\n ]", Pattern.DOTALL).matcher(text);
        while (m.find()) {
            list.add(new Token(m.start(), m.group()));
        }
        return list;
    }

    /** How many tokens can stand as the grammar wants them; all of them and whole lines: NONE. */
    private static int firstThatCantStand(List<Token> tokens) {
        Map<String, String> grammar = Map.of("groups", "N;", "pot", "WW*;", "mark", "WWW*;", "atmost", "NW;",
                "apart", "WW;", "never", "WN;", "fixed", "WN;");
        int at = 0;
        boolean first = true;
        while (at < tokens.size()) {
            String word = tokens.get(at).text;
            if (!grammar.containsKey(word) || first != word.equals("groups") && first) {
                return at;
            }
            first = false;
            String form = grammar.get(word);
            at++;
            for (int k = 0; k < form.length(); k++) {
                boolean star = k + 1 < form.length() && form.charAt(k + 1) == '*';
                while (star && at < tokens.size() && tokens.get(at).isName()) {
                    at++;
                }
                if (star) {
                    k++;
                    continue;
                }
                if (at == tokens.size()) {
                    return at;
                }
                Token t = tokens.get(at);
                char c = form.charAt(k);
                if (!(c == 'W' ? t.isName() : c == 'N' ? t.isNumber() : t.text.equals(";"))) {
                    return at;
                }
                at++;
            }
        }
        return NONE;
    }

    int text(int n) {
        if (n < 0 || n > tape.length()) {
            return -2;
        }
        String text = tape.substring(0, n);
        tape.setLength(0);
        List<Token> tokens = tokens(text);
        Faults faults = new Faults();
        int bad = firstThatCantStand(tokens);
        int sound = bad == NONE ? tokens.size() : bad;
        if (bad != NONE) {
            faults.tell(bad == tokens.size() ? n : tokens.get(bad).at, 1);
        }
        Oracle next = new Oracle();
        int lines = next.tellLines(tokens.subList(0, sound), faults);
        if (!faults.byPlace.isEmpty()) {
            faultPlace = faults.byPlace.firstKey();
            faultKind = faults.byPlace.get(faultPlace);
            return NONE;
        }
        faultKind = 0;
        faultPlace = NONE;
        groups = next.groups;
        pots = next.pots;
        teams = next.teams;
        marks = next.marks;
        marked = next.marked;
        bars = next.bars;
        order = turns(pots.size());
        arrangement = turns(groups);
        balls.clear();
        ballGroups.clear();
        known.clear();
        listDraws();
        return lines;
    }

    private static int[] turns(int n) {
        int[] row = new int[n];
        for (int i = 0; i < n; i++) {
            row[i] = i;
        }
        return row;
    }

    /** Tells all that is wrong with tokens that stand rightly; goes on behind a fault, as only the first counts. */
    private int tellLines(List<Token> tokens, Faults faults) {
        int lines = 0;
        for (int at = 0; at < tokens.size(); ) {
            int end = at;
            while (end < tokens.size() && !tokens.get(end).text.equals(";")) {
                end++;
            }
            List<Token> line = tokens.subList(at, end);
            if (!line.isEmpty()) {
                tellLine(line, end < tokens.size() ? tokens.get(end).at : NONE, faults, lines == 0);
            }
            if (!faults.byPlace.isEmpty() && faults.byPlace.firstKey() < line.get(0).at) {
                return lines;
            }
            lines++;
            at = end + 1;
        }
        return lines;
    }

    private void tellLine(List<Token> line, int stop, Faults faults, boolean first) {
        Token head = line.get(0);
        List<Token> rest = line.subList(1, line.size());
        switch (head.text) {
            case "groups":
                if (!first) {
                    faults.tell(head.at, 3);
                } else if (!rest.isEmpty()) {
                    if (rest.get(0).isBeyond(2, 4)) {
                        faults.tell(rest.get(0).at, 2);
                    } else {
                        groups = Integer.parseInt(rest.get(0).text);
                    }
                }
                return;
            case "pot":
                tellPot(head, rest, stop, faults);
                return;
            case "mark":
                tellMark(head, rest, faults);
                return;
            default:
                tellBar(head, rest, faults);
        }
    }

    private void tellPot(Token head, List<Token> names, int stop, Faults faults) {
        if (pots.size() == 4 || teams.size() + groups > 12) {
            faults.tell(head.at, 2);
        }
        List<String> pot = new ArrayList<>();
        for (Token t : names) {
            if (pot.size() >= groups) {
                faults.tell(t.at, 2);
            }
            if (teams.contains(t.text)) {
                faults.tell(t.at, 3);
            }
            pot.add(t.text);
            teams.add(t.text);
        }
        if (stop != NONE && names.size() < groups) {
            faults.tell(stop, 5);
        }
        pots.add(pot);
    }

    private void tellMark(Token head, List<Token> names, Faults faults) {
        if (marks.size() == 6) {
            faults.tell(head.at, 2);
        }
        Set<Integer> have = new HashSet<>();
        for (int i = 0; i < names.size(); i++) {
            Token t = names.get(i);
            if (i == 0) {
                if (marks.contains(t.text)) {
                    faults.tell(t.at, 3);
                }
                marks.add(t.text);
            } else {
                tellTeam(t, have, faults);
            }
        }
        marked.add(have);
    }

    private void tellTeam(Token t, Set<Integer> into, Faults faults) {
        int team = teams.indexOf(t.text);
        if (team < 0) {
            faults.tell(t.at, 4);
        } else if (!into.add(team)) {
            faults.tell(t.at, 3);
        }
    }

    private void tellBar(Token head, List<Token> rest, Faults faults) {
        if (bars.size() == 10) {
            faults.tell(head.at, 2);
        }
        Set<Integer> of = new HashSet<>();
        int number = 0;
        for (Token t : rest) {
            if (t.isNumber()) {
                boolean most = head.text.equals("atmost");
                if (t.isBeyond(most ? 1 : 0, most ? 3 : groups - 1)) {
                    faults.tell(t.at, 2);
                } else {
                    number = Integer.parseInt(t.text);
                }
            } else if (head.text.equals("atmost")) {
                int mark = marks.indexOf(t.text);
                if (mark < 0) {
                    faults.tell(t.at, 4);
                } else {
                    of.addAll(marked.get(mark));
                }
            } else {
                tellTeam(t, of, faults);
            }
        }
        bars.add(new Bar(head.text, of, number));
    }

    int fault(int what) {
        return what == 0 ? faultKind : what == 1 ? faultPlace : NONE;
    }

    int named(int what, int letters) {
        List<String> names = what == 0 ? teams : what == 1 ? marks : List.of();
        for (int i = 0; i < names.size(); i++) {
            int code = 0;
            for (int k = 0; k < 6; k++) {
                code = code * 32 + (k < names.get(i).length() ? names.get(i).charAt(k) - 96 : 0);
            }
            if (code == letters) {
                return i;
            }
        }
        return NONE;
    }

    // ---- draws

    /** All rows of the numbers 0 .. n - 1, those with lesser numbers ahead first. */
    static List<int[]> rowsOf(int n) {
        List<int[]> rows = new ArrayList<>();
        if (n == 0) {
            rows.add(new int[0]);
            return rows;
        }
        for (int first = 0; first < n; first++) {
            for (int[] shorter : rowsOf(n - 1)) {
                int[] row = new int[n];
                row[0] = first;
                for (int i = 1; i < n; i++) {
                    row[i] = shorter[i - 1] < first ? shorter[i - 1] : shorter[i - 1] + 1;
                }
                rows.add(row);
            }
        }
        return rows;
    }

    private void listDraws() {
        draws = new ArrayList<>();
        draws.add(new int[0]);
        for (int p = 0; p < pots.size(); p++) {
            List<int[]> longer = new ArrayList<>();
            for (int[] draw : draws) {
                for (int[] row : rowsOf(groups)) {
                    int[] both = Arrays.copyOf(draw, draw.length + groups);
                    System.arraycopy(row, 0, both, draw.length, groups);
                    longer.add(both);
                }
            }
            draws = longer;
        }
        lawfulDraws = keeping(allBars());
        codes.clear();
        for (int code = 0; code < draws.size(); code++) {
            codes.put(keyOf(draws.get(code)), code);
        }
    }

    private int allBars() {
        return (1 << bars.size()) - 1;
    }

    private boolean keeps(int[] draw, int barBits) {
        for (int b = 0; b < bars.size(); b++) {
            if ((barBits >> b & 1) != 0 && !bars.get(b).holds(draw, groups)) {
                return false;
            }
        }
        return true;
    }

    private List<int[]> keeping(int barBits) {
        List<int[]> list = new ArrayList<>();
        for (int[] draw : draws) {
            if (keeps(draw, barBits)) {
                list.add(draw);
            }
        }
        return list;
    }

    int lawful() {
        return lawfulDraws.size();
    }

    int without(int bar) {
        return bar < 0 || bar >= bars.size() ? NONE : keeping(allBars() & ~(1 << bar)).size();
    }

    private int fewest(List<int[]> among) {
        for (int size = 0; size <= bars.size(); size++) {
            for (int set = 0; set <= allBars(); set++) {
                if (Integer.bitCount(set) == size) {
                    boolean some = false;
                    for (int[] draw : among) {
                        if (keeps(draw, set)) {
                            some = true;
                            break;
                        }
                    }
                    if (!some) {
                        return set;
                    }
                }
            }
        }
        throw new IllegalStateException();
    }

    int forbids() {
        return lawful() > 0 ? 0 : fewest(draws);
    }

    private boolean isTeam(int team) {
        return team >= 0 && team < teams.size();
    }

    int draw(int k, int team) {
        return k < 0 || k >= lawful() || !isTeam(team) ? NONE : lawfulDraws.get(k)[team];
    }

    int judge(int code) {
        return code < 0 || code >= draws.size() ? NONE : keeps(draws.get(code), allBars()) ? 1 : 0;
    }

    // ---- the stage

    private static int[] told(int bits, int n) {
        int[] row = new int[n];
        Set<Integer> seen = new HashSet<>();
        for (int i = 0; i < n; i++) {
            row[i] = bits >> 2 * i & 3;
            if (row[i] >= n || !seen.add(row[i])) {
                return null;
            }
        }
        return row;
    }

    boolean order(int bits) {
        int[] row = told(bits, pots.size());
        if (row == null) {
            return false;
        }
        order = row;
        clear();
        return true;
    }

    boolean arrange(int bits) {
        int[] row = told(bits, groups);
        if (row == null) {
            return false;
        }
        arrangement = row;
        clear();
        return true;
    }

    int clear() {
        int were = balls.size();
        balls.clear();
        ballGroups.clear();
        return were;
    }

    private int[] stagePlaces(int manyBalls) {
        int[] where = new int[teams.size()];
        Arrays.fill(where, NONE);
        for (int i = 0; i < manyBalls; i++) {
            where[balls.get(i)] = ballGroups.get(i);
        }
        return where;
    }

    private static boolean fits(int[] draw, int[] where) {
        for (int t = 0; t < draw.length; t++) {
            if (where[t] != NONE && where[t] != draw[t]) {
                return false;
            }
        }
        return true;
    }

    private boolean someLawful(int[] where) {
        return lawfulDraws.stream().anyMatch(draw -> fits(draw, where));
    }

    private boolean potHas(int[] where, int pot, int group) {
        for (int i = 0; i < groups; i++) {
            if (where[pot * groups + i] == group) {
                return true;
            }
        }
        return false;
    }

    private boolean isOpen(int[] where, int team, int group) {
        if (potHas(where, team / groups, group)) {
            return false;
        }
        int[] then = where.clone();
        then[team] = group;
        return someLawful(then);
    }

    int ball(int team) {
        if (!isTeam(team) || balls.contains(team) || lawful() == 0
                || order[balls.size() / groups] != team / groups) {
            return NONE;
        }
        int[] where = stagePlaces(balls.size());
        for (int g : arrangement) {
            if (isOpen(where, team, g)) {
                balls.add(team);
                ballGroups.add(g);
                return g;
            }
        }
        throw new IllegalStateException();
    }

    int why(int group) {
        if (balls.isEmpty() || group < 0 || group >= groups) {
            return NONE;
        }
        int last = balls.size() - 1;
        if (ballGroups.get(last) == group) {
            return 0;
        }
        int mine = indexOf(arrangement, ballGroups.get(last));
        if (indexOf(arrangement, group) > mine) {
            return 3;
        }
        return potHas(stagePlaces(last), balls.get(last) / groups, group) ? 1 : 2;
    }

    private static int indexOf(int[] row, int x) {
        for (int i = 0; i < row.length; i++) {
            if (row[i] == x) {
                return i;
            }
        }
        return NONE;
    }

    int placed(int team) {
        return isTeam(team) ? stagePlaces(balls.size())[team] : NONE;
    }

    int undo() {
        if (balls.isEmpty()) {
            return NONE;
        }
        balls.remove(balls.size() - 1);
        ballGroups.remove(ballGroups.size() - 1);
        return balls.size();
    }

    int ends(int team) {
        int[] where = stagePlaces(balls.size());
        for (int[] draw : lawfulDraws) {
            if (fits(draw, where)) {
                return isTeam(team) ? draw[team] : NONE;
            }
        }
        return NONE;
    }

    int blame(int group) {
        if (why(group) != 2) {
            return NONE;
        }
        int[] where = stagePlaces(balls.size() - 1);
        where[balls.get(balls.size() - 1)] = group;
        List<int[]> among = new ArrayList<>();
        for (int[] draw : draws) {
            if (fits(draw, where)) {
                among.add(draw);
            }
        }
        return fewest(among);
    }

    // ---- ways

    /** How many rows lead to each whole draw. */
    private static final class Ways {
        final Map<Integer, Long> rowsTo = new HashMap<>();
        long rows;
    }

    /** All draws stand in the order of their codes. */
    private int codeOf(int[] draw) {
        return codes.get(keyOf(draw));
    }

    private Ways ways(int way, int[] potOrder, int[] inTurn, int outBalls) {
        String key = way + Arrays.toString(potOrder) + Arrays.toString(inTurn)
                + balls.subList(0, outBalls) + ballGroups.subList(0, outBalls);
        return known.computeIfAbsent(key, k -> newWays(way, potOrder, inTurn, outBalls));
    }

    private static long keyOf(int[] where) {
        long key = 0;
        for (int g : where) {
            key = key * 8 + g + 1;
        }
        return key;
    }

    /** All that lawful draws give to whole pots of the order and some teams of the next one. */
    private Set<Long> reachable(int[] potOrder) {
        Set<Long> set = new HashSet<>();
        for (int[] draw : lawfulDraws) {
            int[] where = new int[teams.size()];
            Arrays.fill(where, NONE);
            for (int pot : potOrder) {
                for (int some = 0; some < 1 << groups; some++) {
                    for (int i = 0; i < groups; i++) {
                        int t = pot * groups + i;
                        where[t] = (some >> i & 1) != 0 ? draw[t] : NONE;
                    }
                    set.add(keyOf(where));
                }
            }
        }
        return set;
    }

    private Ways newWays(int way, int[] potOrder, int[] inTurn, int outBalls) {
        Ways ways = new Ways();
        int[] start = stagePlaces(outBalls);
        Map<Long, Long> weights = new HashMap<>();
        Map<Long, int[]> states = new HashMap<>();
        if (way == 1) {
            for (int[] draw : lawfulDraws) {
                if (fits(draw, start)) {
                    ways.rowsTo.put(codeOf(draw), 1L);
                    ways.rows++;
                }
            }
            return ways;
        }
        if (lawful() == 0) {
            return ways;
        }
        Set<Long> reachable = reachable(potOrder);
        weights.put(keyOf(start), 1L);
        states.put(keyOf(start), start);
        for (int out = outBalls; out < teams.size(); out++) {
            Map<Long, Long> nextWeights = new HashMap<>();
            Map<Long, int[]> nextStates = new HashMap<>();
            int pot = potOrder[out / groups];
            int left = groups - out % groups;
            long share = way == 0 ? 1 : new long[] {0, 1, 2, 6, 12}[left];
            for (Map.Entry<Long, Long> entry : weights.entrySet()) {
                int[] where = states.get(entry.getKey());
                for (int i = 0; i < groups; i++) {
                    int team = pot * groups + i;
                    if (where[team] != NONE) {
                        continue;
                    }
                    List<int[]> opens = new ArrayList<>();
                    for (int g : inTurn) {
                        int[] then = where.clone();
                        then[team] = g;
                        if (!potHas(where, pot, g) && reachable.contains(keyOf(then))) {
                            opens.add(then);
                        }
                    }
                    List<int[]> taken = way == 0 ? opens.subList(0, 1) : opens;
                    for (int[] then : taken) {
                        if (share % taken.size() != 0) {
                            throw new IllegalStateException();
                        }
                        nextStates.put(keyOf(then), then);
                        nextWeights.merge(keyOf(then), entry.getValue() * (share / taken.size()), Long::sum);
                    }
                }
            }
            weights = nextWeights;
            states = nextStates;
        }
        for (Map.Entry<Long, Long> entry : weights.entrySet()) {
            ways.rowsTo.put(codeOf(states.get(entry.getKey())), entry.getValue());
            ways.rows += entry.getValue();
        }
        return ways;
    }

    private long together(Ways ways, int a, int b) {
        long sum = 0;
        for (Map.Entry<Integer, Long> entry : ways.rowsTo.entrySet()) {
            int[] draw = draws.get(entry.getKey());
            if (draw[a] == draw[b]) {
                sum += entry.getValue();
            }
        }
        return sum;
    }

    private static boolean isWay(int way) {
        return way >= 0 && way <= 2;
    }

    long pair(int a, int b, int way) {
        if (!isTeam(a) || !isTeam(b) || a == b || !isWay(way)) {
            return NONE;
        }
        return together(ways(way, order, arrangement, balls.size()), a, b);
    }

    long place(int team, int group, int way) {
        if (!isTeam(team) || group < 0 || group >= groups || !isWay(way)) {
            return NONE;
        }
        long sum = 0;
        for (Map.Entry<Integer, Long> e : ways(way, order, arrangement, balls.size()).rowsTo.entrySet()) {
            sum += draws.get(e.getKey())[team] == group ? e.getValue() : 0;
        }
        return sum;
    }

    long all(int way) {
        return isWay(way) ? ways(way, order, arrangement, balls.size()).rows : NONE;
    }

    private List<int[]> unlikePairs() {
        List<int[]> pairs = new ArrayList<>();
        for (int a = 0; a < teams.size(); a++) {
            for (int b = a + 1; b < teams.size(); b++) {
                if (a / groups != b / groups) {
                    pairs.add(new int[] {a, b});
                }
            }
        }
        return pairs;
    }

    private long[] fars(Ways one, Ways other) {
        List<int[]> pairs = unlikePairs();
        long[] fars = new long[pairs.size()];
        for (int i = 0; i < fars.length; i++) {
            int[] p = pairs.get(i);
            fars[i] = together(one, p[0], p[1]) * other.rows - together(other, p[0], p[1]) * one.rows;
        }
        return fars;
    }

    long apart(int one, int other, int what) {
        if (!isWay(one) || !isWay(other) || one == other || what < 0 || what > 5 || lawful() == 0) {
            return Long.MIN_VALUE;
        }
        Ways first = ways(one, order, arrangement, 0);
        Ways second = ways(other, order, arrangement, 0);
        long[] fars = fars(first, second);
        long most = Arrays.stream(fars).map(Math::abs).max().orElse(0);
        switch (what) {
            case 0:
                return most;
            case 1:
                return Arrays.stream(fars).map(Math::abs).sum();
            case 5:
                return first.rows * second.rows;
            default:
        }
        for (int i = 0; i < fars.length; i++) {
            if (Math.abs(fars[i]) == most) {
                return what == 4 ? fars[i] : unlikePairs().get(i)[what - 2];
            }
        }
        return what == 4 ? 0 : NONE;
    }

    int nearest(int what) {
        if (lawful() == 0) {
            return -2;
        }
        if (what != 0 && what != 1) {
            return NONE;
        }
        long least = Long.MAX_VALUE;
        int found = NONE;
        for (int[] row : rowsOf(what == 0 ? pots.size() : groups)) {
            Ways skip = what == 0 ? ways(0, row, arrangement, 0) : ways(0, order, row, 0);
            long far = Arrays.stream(fars(skip, ways(1, order, arrangement, 0))).map(Math::abs).max().orElse(0);
            if (far < least) {
                least = far;
                found = 0;
                for (int i = 0; i < row.length; i++) {
                    found += row[i] << 2 * i;
                }
            }
        }
        return found;
    }

    int leads(int row) {
        if (row < 0 || row >= draws.size() || lawful() == 0) {
            return NONE;
        }
        int[] where = new int[teams.size()];
        Arrays.fill(where, NONE);
        int[] told = draws.get(row);
        for (int k = 0; k < teams.size(); k++) {
            int team = order[k / groups] * groups + told[k];
            for (int g : arrangement) {
                if (isOpen(where, team, g)) {
                    where[team] = g;
                    break;
                }
            }
        }
        return codeOf(where);
    }

    // ---- bars

    private static long togetherIn(List<int[]> list, int a, int b) {
        return list.stream().filter(draw -> draw[a] == draw[b]).count();
    }

    long moves(int bar, int a, int b) {
        if (bar < 0 || bar >= bars.size() || !isTeam(a) || !isTeam(b) || a == b) {
            return Long.MIN_VALUE;
        }
        List<int[]> without = keeping(allBars() & ~(1 << bar));
        return togetherIn(lawfulDraws, a, b) * without.size() - togetherIn(without, a, b) * lawful();
    }

    int leave(int of100) {
        if (of100 < 0 || of100 > 100) {
            return NONE;
        }
        for (int size = 0; size <= 2; size++) {
            for (int set = 0; set <= allBars(); set++) {
                if (Integer.bitCount(set) == size) {
                    List<int[]> list = keeping(allBars() & ~set);
                    boolean fine = !list.isEmpty();
                    for (int[] p : unlikePairs()) {
                        fine = fine && togetherIn(list, p[0], p[1]) * 100 <= (long) of100 * list.size();
                    }
                    if (fine) {
                        return set;
                    }
                }
            }
        }
        return NONE;
    }

    // ---- swaps

    private List<int[]> swapped(int[] draw) {
        List<int[]> list = new ArrayList<>();
        for (int p = 0; p < pots.size(); p++) {
            for (int g = 0; g < groups; g++) {
                for (int h = g + 1; h < groups; h++) {
                    int[] then = draw.clone();
                    for (int t = p * groups; t < p * groups + groups; t++) {
                        then[t] = draw[t] == g ? h : draw[t] == h ? g : draw[t];
                    }
                    list.add(then);
                }
            }
        }
        return list;
    }

    int parts(int what) {
        if (what < 0 || what > 2) {
            return NONE;
        }
        Set<Long> met = new HashSet<>();
        Set<Long> good = new HashSet<>();
        for (int[] draw : lawfulDraws) {
            good.add(keyOf(draw));
        }
        List<Integer> sizes = new ArrayList<>();
        for (int[] draw : lawfulDraws) {
            if (!met.add(keyOf(draw))) {
                continue;
            }
            int size = 0;
            ArrayDeque<int[]> queue = new ArrayDeque<>();
            queue.add(draw);
            while (!queue.isEmpty()) {
                size++;
                for (int[] then : swapped(queue.remove())) {
                    if (good.contains(keyOf(then)) && met.add(keyOf(then))) {
                        queue.add(then);
                    }
                }
            }
            sizes.add(size);
        }
        if (what == 0 || sizes.isEmpty()) {
            return sizes.size();
        }
        return what == 1 ? sizes.get(0) : sizes.stream().max(Integer::compare).get();
    }

    private Map<Long, Long> mixedRows(int n) {
        Map<Long, int[]> states = new HashMap<>();
        Map<Long, Long> rows = new HashMap<>();
        rows.put(keyOf(lawfulDraws.get(0)), 1L);
        states.put(keyOf(lawfulDraws.get(0)), lawfulDraws.get(0));
        for (int k = 0; k < n; k++) {
            Map<Long, Long> next = new HashMap<>();
            Map<Long, int[]> nextStates = new HashMap<>();
            for (Map.Entry<Long, Long> entry : rows.entrySet()) {
                int[] draw = states.get(entry.getKey());
                for (int[] then : swapped(draw)) {
                    int[] to = keeps(then, allBars()) ? then : draw;
                    next.merge(keyOf(to), entry.getValue(), Long::sum);
                    nextStates.put(keyOf(to), to);
                }
            }
            rows = next;
            states = nextStates;
        }
        return rows;
    }

    int mix(int n, int code) {
        if (n < 0 || n > 5 || code < 0 || code >= draws.size() || lawful() == 0) {
            return NONE;
        }
        return (int) (long) mixedRows(n).getOrDefault(keyOf(draws.get(code)), 0L);
    }

    long mixed(int n, int what) {
        if (n < 0 || n > 5 || what < 0 || what > 1 || lawful() == 0) {
            return NONE;
        }
        long all = 1;
        for (int k = 0; k < n; k++) {
            all *= swapped(draws.get(0)).size();
        }
        if (what == 1) {
            return all * lawful();
        }
        Map<Long, Long> rows = mixedRows(n);
        long sum = 0;
        for (int[] draw : lawfulDraws) {
            sum += Math.abs(rows.getOrDefault(keyOf(draw), 0L) * lawful() - all);
        }
        return sum;
    }

    // ---- the machine

    private static long numberAfter(long number) {
        return (number * 1103515245L + 12345L) % (1L << 31);
    }

    int run(int seed, int team) {
        if (seed < 0 || !isTeam(team) || lawful() == 0) {
            return NONE;
        }
        int[] where = new int[teams.size()];
        Arrays.fill(where, NONE);
        long number = seed;
        for (int pot = 0; pot < pots.size(); pot++) {
            List<Integer> left = new ArrayList<>();
            for (int i = 0; i < groups; i++) {
                left.add(pot * groups + i);
            }
            while (!left.isEmpty()) {
                number = numberAfter(number);
                int t = left.remove((int) (number / 65536 % left.size()));
                for (int g = 0; g < groups; g++) {
                    if (where[t] == NONE && isOpen(where, t, g)) {
                        where[t] = g;
                    }
                }
            }
        }
        return where[team];
    }

    int evenly(int seed, int what) {
        if (seed < 0 || what < 0 || what > 2 || lawful() == 0) {
            return NONE;
        }
        long two31 = 1L << 31;
        long number = seed;
        int came = 0;
        do {
            number = numberAfter(number);
            came++;
        } while (number >= two31 - two31 % lawful());
        return what == 0 ? (int) (number % lawful()) : what == 1 ? came : (int) number;
    }

    int look(int team, int what) {
        if (!isTeam(team)) {
            throw new IndexOutOfBoundsException();
        }
        if (what != 0 && what != 1) {
            throw new NoSuchElementException();
        }
        if (what == 0) {
            return team / groups;
        }
        int bits = 0;
        for (int m = 0; m < marks.size(); m++) {
            bits |= marked.get(m).contains(team) ? 1 << m : 0;
        }
        return bits;
    }

    int count(int what) {
        int[] counts = {groups, pots.size(), teams.size(), marks.size(), bars.size(), balls.size(), draws.size()};
        return what >= 0 && what < counts.length ? counts[what] : NONE;
    }
}
