import java.util.ArrayList;
import java.util.List;
import java.util.NoSuchElementException;

/** A BallPots and an Oracle that get the same calls; the first answer that differs is told with all calls. */
final class Duel {
    private final BallPots pots = new BallPots();
    private final Oracle oracle = new Oracle();
    private final List<String> calls = new ArrayList<>();
    private int wrong;

    int wrong() {
        return wrong;
    }

    /** Feeds a text, padded to whole feeds, and reads just it. */
    long read(String text) {
        int fives = (text.length() + 19) / 20;
        for (int k = 0; k < fives; k++) {
            int[] five = new int[5];
            for (int i = 0; i < 20; i++) {
                int at = 20 * k + i;
                five[i / 4] = five[i / 4] << 8 | (at < text.length() ? text.charAt(at) & 255 : ' ');
            }
            call("feed", five);
        }
        calls.add("// " + text.replace("\n", "\\n"));
        return call("text", text.length());
    }

    long call(String name, int... args) {
        StringBuilder told = new StringBuilder(name).append('(');
        for (int i = 0; i < args.length; i++) {
            told.append(i == 0 ? "" : ", ").append(args[i]);
        }
        calls.add(told.append(')').toString());
        String due = answer(false, name, args);
        String got = answer(true, name, args);
        if (!due.equals(got)) {
            wrong++;
            System.out.println(String.join("\n", calls) + " answered " + got + ", due is " + due);
        }
        return due.startsWith("throws") ? Long.MIN_VALUE : Long.parseLong(due);
    }

    private String answer(boolean real, String name, int[] a) {
        try {
            return String.valueOf(real ? ofClass(name, a) : ofOracle(name, a));
        } catch (IndexOutOfBoundsException e) {
            return e.getClass() == IndexOutOfBoundsException.class ? "throws.Index" : "throws." + e;
        } catch (NoSuchElementException e) {
            return "throws.NoSuch";
        } catch (RuntimeException e) {
            return "throws." + e;
        }
    }

    private long ofClass(String name, int[] a) {
        switch (name) {
            case "feed": return pots.feed(a[0], a[1], a[2], a[3], a[4]);
            case "text": return pots.text(a[0]);
            case "fault": return pots.fault(a[0]);
            case "named": return pots.named(a[0], a[1]);
            case "lawful": return pots.lawful();
            case "without": return pots.without(a[0]);
            case "forbids": return pots.forbids();
            case "draw": return pots.draw(a[0], a[1]);
            case "judge": return pots.judge(a[0]);
            case "order": return pots.order(a[0]) ? 1 : 0;
            case "ball": return pots.ball(a[0]);
            case "why": return pots.why(a[0]);
            case "clear": return pots.clear();
            case "placed": return pots.placed(a[0]);
            case "arrange": return pots.arrange(a[0]) ? 1 : 0;
            case "undo": return pots.undo();
            case "ends": return pots.ends(a[0]);
            case "blame": return pots.blame(a[0]);
            case "pair": return pots.pair(a[0], a[1], a[2]);
            case "place": return pots.place(a[0], a[1], a[2]);
            case "all": return pots.all(a[0]);
            case "apart": return pots.apart(a[0], a[1], a[2]);
            case "nearest": return pots.nearest(a[0]);
            case "leads": return pots.leads(a[0]);
            case "moves": return pots.moves(a[0], a[1], a[2]);
            case "leave": return pots.leave(a[0]);
            case "parts": return pots.parts(a[0]);
            case "mix": return pots.mix(a[0], a[1]);
            case "mixed": return pots.mixed(a[0], a[1]);
            case "run": return pots.run(a[0], a[1]);
            case "evenly": return pots.evenly(a[0], a[1]);
            case "look": return pots.look(a[0], a[1]);
            case "count": return pots.count(a[0]);
            default: throw new IllegalArgumentException(name);
        }
    }

    private long ofOracle(String name, int[] a) {
        switch (name) {
            case "feed": return oracle.feed(a[0], a[1], a[2], a[3], a[4]);
            case "text": return oracle.text(a[0]);
            case "fault": return oracle.fault(a[0]);
            case "named": return oracle.named(a[0], a[1]);
            case "lawful": return oracle.lawful();
            case "without": return oracle.without(a[0]);
            case "forbids": return oracle.forbids();
            case "draw": return oracle.draw(a[0], a[1]);
            case "judge": return oracle.judge(a[0]);
            case "order": return oracle.order(a[0]) ? 1 : 0;
            case "ball": return oracle.ball(a[0]);
            case "why": return oracle.why(a[0]);
            case "clear": return oracle.clear();
            case "placed": return oracle.placed(a[0]);
            case "arrange": return oracle.arrange(a[0]) ? 1 : 0;
            case "undo": return oracle.undo();
            case "ends": return oracle.ends(a[0]);
            case "blame": return oracle.blame(a[0]);
            case "pair": return oracle.pair(a[0], a[1], a[2]);
            case "place": return oracle.place(a[0], a[1], a[2]);
            case "all": return oracle.all(a[0]);
            case "apart": return oracle.apart(a[0], a[1], a[2]);
            case "nearest": return oracle.nearest(a[0]);
            case "leads": return oracle.leads(a[0]);
            case "moves": return oracle.moves(a[0], a[1], a[2]);
            case "leave": return oracle.leave(a[0]);
            case "parts": return oracle.parts(a[0]);
            case "mix": return oracle.mix(a[0], a[1]);
            case "mixed": return oracle.mixed(a[0], a[1]);
            case "run": return oracle.run(a[0], a[1]);
            case "evenly": return oracle.evenly(a[0], a[1]);
            case "look": return oracle.look(a[0], a[1]);
            case "count": return oracle.count(a[0]);
            default: throw new IllegalArgumentException(name);
        }
    }
}
