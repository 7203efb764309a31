import java.util.Random;

/** Random texts, most of them with something amiss: lines, faults and all that they tell against the Oracle's. */
final class RandomTextsTest {
    private RandomTextsTest() {
    }

    public static void main(String[] args) {
        int wrong = 0;
        long runs = args.length > 0 ? Long.parseLong(args[0]) : 4000;
        int[] kinds = new int[6];
        for (long seed = 0; seed < runs && wrong < 3; seed++) {
            Random random = new Random(seed);
            Duel duel = new Duel();
            for (int k = 0; k < 6; k++) {
                Texts texts = new Texts(random);
                int groups = 2 + random.nextInt(2);
                String text = texts.sound(groups, random.nextInt(5), 10);
                duel.read(random.nextInt(6) == 0 ? text : texts.amiss(text));
                kinds[(int) duel.call("fault", 0)]++;
                duel.call("fault", 1);
                for (int what = 0; what < 7; what++) {
                    duel.call("count", what);
                }
                duel.call("lawful");
                duel.call("look", random.nextInt(12), 1);
            }
            wrong += duel.wrong();
        }
        for (int kind = 0; kind < kinds.length; kind++) {
            System.out.println("fault " + kind + ": " + kinds[kind] + " texts");
            if (kinds[kind] < 20) {
                wrong++;
                System.out.println("that is too few");
            }
        }
        System.out.println(runs + " runs of random texts, " + wrong + " answers are not as due");
        System.exit(wrong == 0 ? 0 : 1);
    }
}
