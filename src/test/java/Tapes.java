/** Puts texts on a tape and reads them. */
final class Tapes {
    private Tapes() {
    }

    /** Feeds a text, with blanks behind it up to whole feeds. */
    static void feed(BallPots x, String text) {
        for (int k = 0; k < text.length(); k += 20) {
            int[] five = new int[5];
            for (int i = 0; i < 20; i++) {
                five[i / 4] = five[i / 4] << 8 | (k + i < text.length() ? text.charAt(k + i) & 255 : ' ');
            }
            x.feed(five[0], five[1], five[2], five[3], five[4]);
        }
    }

    static int read(BallPots x, String text) {
        feed(x, text);
        return x.text(text.length());
    }

    /** A new object that has read a sound text. */
    static BallPots of(String text) {
        BallPots x = new BallPots();
        if (read(x, text) < 0) {
            throw new IllegalArgumentException("fault " + x.fault(0) + " at " + x.fault(1) + ": " + text);
        }
        return x;
    }

    /** The text with just those of its bars whose bits are set. */
    static String withBars(String text, int set) {
        StringBuilder kept = new StringBuilder();
        int bar = 0;
        for (String line : text.split("(?<=;)")) {
            boolean isBar = line.matches("(atmost|apart|never|fixed) .*");
            if (!isBar || (set >> bar & 1) != 0) {
                kept.append(line);
            }
            bar += isBar ? 1 : 0;
        }
        return kept.toString();
    }

    /** A name as named() wants it. */
    static int letters(String name) {
        int code = 0;
        for (int k = 0; k < 6; k++) {
            code = code << 5 | (k < name.length() ? name.charAt(k) - 96 : 0);
        }
        return code;
    }
}
