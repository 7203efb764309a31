import java.util.ArrayList;
import java.util.List;
import java.util.Random;

/** Random texts: sound ones, and ones in which something is amiss. */
final class Texts {
    private static final String[] WORDS = {"groups", "pot", "mark", "atmost", "apart", "never", "fixed", ";", "0",
        "1", "2", "3", "4", "5", "99999999999", "a", "b", "c", "x", "abcdef", "abcdefg", "A", "-", "\n", " ", "!",
        "\u00e9", "\t", "pots", "groupss", "m"};

    private final Random random;
    private final List<String> names = new ArrayList<>();
    private final StringBuilder text = new StringBuilder();

    Texts(Random random) {
        this.random = random;
    }

    private String blank() {
        int k = random.nextInt(20);
        return k == 0 ? "\n" : k == 1 ? "  " : " ";
    }

    private void line(Object... parts) {
        for (int i = 0; i < parts.length; i++) {
            text.append(i == 0 ? "" : blank()).append(parts[i]);
        }
        text.append(random.nextInt(30) == 0 ? " ; " : ";");
    }

    private String name(int number) {
        return random.nextInt(12) == 0 ? "q" + "abcdefghijklmnopqrs".substring(number, number + 5)
                : String.valueOf((char) ('a' + number));
    }

    /** A sound text of so many groups and pots, with up to so many bars. */
    String sound(int groups, int pots, int mostBars) {
        text.setLength(0);
        names.clear();
        line("groups", random.nextInt(10) == 0 ? "0" + groups : groups);
        List<String> marks = new ArrayList<>();
        for (int p = 0; p < pots; p++) {
            Object[] parts = new Object[groups + 1];
            parts[0] = "pot";
            for (int i = 0; i < groups; i++) {
                names.add(name(names.size()));
                parts[i + 1] = names.get(names.size() - 1);
            }
            line(parts);
            if (random.nextInt(4) == 0) {
                mark(marks);
            }
        }
        int bars = pots == 0 ? 0 : random.nextInt(mostBars + 1);
        for (int k = random.nextInt(3); k >= 0 && pots > 0; k--) {
            mark(marks);
        }
        for (int k = 0; k < bars && text.length() < 380; k++) {
            bar(marks, groups);
        }
        return text.length() > 400 ? sound(groups, pots, mostBars / 2) : text.toString();
    }

    private String anyTeam() {
        return names.get(random.nextInt(names.size()));
    }

    private void mark(List<String> marks) {
        if (marks.size() == 6) {
            return;
        }
        List<Object> parts = new ArrayList<>();
        String mark = random.nextInt(5) == 0 && !marks.contains("a") ? "a" : "m" + (char) ('a' + marks.size());
        marks.add(mark);
        parts.add("mark");
        parts.add(mark);
        for (int k = random.nextInt(5); k >= 0; k--) {
            String team = anyTeam();
            if (!parts.subList(2, parts.size()).contains(team)) {
                parts.add(team);
            }
        }
        line(parts.toArray());
    }

    private void bar(List<String> marks, int groups) {
        switch (random.nextInt(marks.isEmpty() ? 3 : 5)) {
            case 0:
                line("never", anyTeam(), random.nextInt(groups));
                return;
            case 1:
                line(random.nextInt(3) == 0 ? "fixed" : "never", anyTeam(), random.nextInt(groups));
                return;
            case 2:
                String one = anyTeam();
                String other = anyTeam();
                if (!one.equals(other)) {
                    line("apart", one, other);
                }
                return;
            default:
                line("atmost", 1 + random.nextInt(random.nextInt(3) + 1), marks.get(random.nextInt(marks.size())));
        }
    }

    /** A text with something put in, left out, changed or cut off. */
    String amiss(String sound) {
        StringBuilder changed = new StringBuilder(sound);
        for (int k = random.nextInt(2); k >= 0; k--) {
            int at = random.nextInt(changed.length() + 1);
            int until = Math.min(changed.length(), at + random.nextInt(5));
            switch (random.nextInt(5)) {
                case 0:
                    changed.delete(at, until);
                    break;
                case 1:
                    changed.setLength(at);
                    break;
                case 2:
                    changed.replace(at, until, WORDS[random.nextInt(WORDS.length)]);
                    break;
                case 3:
                    changed.append(lineOfWords());
                    break;
                default:
                    changed.insert(at, " " + WORDS[random.nextInt(WORDS.length)] + " ");
            }
        }
        changed.setLength(Math.min(changed.length(), 400));
        return changed.toString();
    }

    private String lineOfWords() {
        StringBuilder line = new StringBuilder(WORDS[random.nextInt(7)]);
        for (int k = random.nextInt(4); k >= 0; k--) {
            boolean team = random.nextInt(2) == 0 && !names.isEmpty();
            line.append(' ').append(team ? anyTeam() : WORDS[random.nextInt(WORDS.length)]);
        }
        return line.append(';').toString();
    }
}
