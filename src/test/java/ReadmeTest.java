import java.io.IOException;
import java.lang.reflect.Method;
import java.lang.reflect.Modifier;
import java.nio.file.Files;
import java.nio.file.Path;
import java.util.regex.Matcher;
import java.util.regex.Pattern;

/** The README's code stands here word for word and answers as it says; it names every call; its text is sound. */
final class ReadmeTest {
    private static final Path README = Path.of("README.md");
    private static final Path SELF = Path.of("src/test/java/ReadmeTest.java");

    private static int wrong;

    private ReadmeTest() {
    }

    public static void main(String[] args) throws IOException {
        example();
        String readme = Files.readString(README);
        codeStandsHere(readme);
        textIsSound(readme);
        for (Method m : BallPots.class.getDeclaredMethods()) {
            if (Modifier.isPublic(m.getModifiers())) {
                hold(readme.contains("`" + m.getName() + "`"), m.getName() + " is named");
            }
        }
        System.out.println("the README, " + wrong + " things are not so");
        System.exit(wrong == 0 ? 0 : 1);
    }

    private static void hold(boolean holds, String what) {
        if (!holds) {
            wrong++;
            System.out.println("not so: " + what);
        }
    }

    private static void due(long got, long want) {
        hold(got == want, "answered " + got + ", due is " + want);
    }

    static int read(BallPots pots, String text) {
        for (int k = 0; k < text.length(); k += 20) {
            int[] five = new int[5];
            for (int i = 0; i < 20; i++) {
                five[i / 4] = five[i / 4] << 8 | (k + i < text.length() ? text.charAt(k + i) : ' ');
            }
            pots.feed(five[0], five[1], five[2], five[3], five[4]);
        }
        return pots.text(text.length());
    }

    private static void example() {
        BallPots pots = new BallPots();
        due(read(pots, "groups 2;pot a b;pot c d;apart a c;"), 4);      // lines
        due(pots.lawful(), 2);             // of
        due(pots.count(6), 4);             // draws
        due(pots.ball(1), 0);              // the ball of team 1 comes: it goes to group 0
        due(pots.ball(0), 1);
        due(pots.ball(2), 0);              // team 2, not with team 0: group 0 has none of its pot yet
        due(pots.why(1), 3);               // group 1 is behind the one that it got
        due(pots.undo(), 2);               // balls are out then
        due(pots.pair(0, 3, 0), 2);        // rows of balls by way 0 (SKIP) with teams 0 and 3 in one group,
        due(pots.all(0), 2);               // of all that are left
        due(pots.moves(0, 0, 3), 4);       // what bar 0 does to that pair
        due(pots.run(7, 0), 0);            // team 0's group by the machine's numbers, from seed 7 on
    }

    /** Lines are held against this file without the blanks ahead of them. */
    private static void codeStandsHere(String readme) throws IOException {
        String self = Files.readString(SELF).replaceAll("(?m)^ +", "");
        int blocks = 0;
        Matcher m = Pattern.compile("(?s)```java\n(.*?)```").matcher(readme);
        while (m.find()) {
            blocks++;
            hold(self.contains(m.group(1).replaceAll("(?m)^ +", "")), "the README's code stands here: " + m.group(1));
        }
        hold(blocks == 2, "two blocks of code");
    }

    private static void textIsSound(String readme) {
        Matcher m = Pattern.compile("(?s)```text\n(.*?)```").matcher(readme);
        hold(m.find(), "the README has a text");
        String text = m.group(1).replaceAll("(?m);.*$", ";");
        BallPots pots = new BallPots();
        due(read(pots, text), 8);
        due(pots.count(4), 4);
        hold(pots.lawful() > 0, "the README's text has a lawful draw");
    }
}
