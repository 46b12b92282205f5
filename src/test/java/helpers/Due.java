/** Compares answers with what is due, prints those that differ, and counts them. */
final class Due {
    private static int asked = 0;
    private static int wrong = 0;

    private Due() {
    }

    static void due(String what, long got, long want) {
        asked++;
        if (got != want) {
            wrong++;
            System.out.println(what + " answered " + got + ", due is " + want);
        }
    }

    /** The text comes behind the tape, eight bytes a call. */
    static void feedText(PigRounds x, String text) {
        for (int i = 0; i < text.length(); i += 8) {
            String part = text.substring(i, Math.min(text.length(), i + 8));
            long w = 0;
            for (int j = 0; j < part.length(); j++) {
                w = w << 8 | part.charAt(j) & 255;
            }
            x.feed(w, part.length());
        }
    }

    static int read(PigRounds x, String text) {
        feedText(x, text);
        return x.land();
    }

    static PigRounds landOf(String text) {
        PigRounds x = new PigRounds();
        int kinds = read(x, text);
        if (kinds < 0) {
            due("reading " + text, kinds, 0);
        }
        return x;
    }

    static void end() {
        System.out.println(asked + " answers looked at, " + wrong + " not as due");
        if (wrong != 0 || asked == 0) {
            System.exit(1);
        }
    }
}
