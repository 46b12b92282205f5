import java.util.Arrays;

/** Boundaries that Terms and promises 6 to 8 name: THE TAPE, TOKENS, the text and its FAULTS. */
public final class TextEdgesTest extends Edges {
    private static final int FAULTS = -1000100, CANNOT_STAND = 1, NOT_AS_TOLD = 2, NO_ROOM = 3;

    /** A text that has each form of TOKEN at each place where it may stand. */
    private static final String[] WHOLE = {"market", "50", "7", "3", ";", "start", "40", "30", "20", ";",
        "kind", "last", "1", "2", "3", "4", "5", ";", "kind", "mean", "2", "1", "2", "3", "4", "5", ";",
        "kind", "trend", "6", "1", "2", "3", "4", "5", ";"};
    private static final int MARKET = 1, START = 6, KIND_LAST = 12, MEAN_K = 20, TREND_T = 29;

    private static final String HEAD = "market 1 1 1;start 1 1 1;";
    private static final String ONE = "kind last 1 1 1 1 1;";

    public static void main(String[] args) {
        bytesOfFeed();
        bytesOfAWord();
        roomOnTheTape();
        roomBehindReading();
        endAtEachToken();
        otherTokenAtEachPlace();
        tokenTooManyAtEachPlace();
        boundsOfNumbers();
        figures();
        gaps();
        letters();
        ways();
        kindsThereIsRoomFor();
        whichFaultIsFirst();
        landStays();
        inPlaceOfTheOneBefore();
        latestFault();
        Due.end();
    }

    private static String upTo(int tokens) {
        return String.join(" ", Arrays.copyOf(WHOLE, tokens));
    }

    /** WHOLE with other words in place of a TOKEN. */
    private static String with(int place, String words) {
        String[] all = WHOLE.clone();
        all[place] = words;
        return String.join(" ", all);
    }

    private static int placeOf(int token) {
        return token == 0 ? 0 : upTo(token).length() + 1;
    }

    private static void reads(String text, int kinds) {
        due("'" + text + "'", Due.read(new PigRounds(), text), kinds);
    }

    private static void faults(String text, int place, int number) {
        PigRounds x = new PigRounds();
        due("'" + text + "'", Due.read(x, text), FAULTS - place);
        due("number of the FAULT in '" + text + "'", x.fault(), number);
        due("no LAND came of '" + text + "'", x.dies(), STATE);
    }

    private static void bytesOfFeed() {
        sentence(6, "The lowest n bytes of w (1 to 8). BAD: n");
        PigRounds x = new PigRounds();
        for (int n : new int[] {0, 9, -1, LEAST, MOST}) {
            due("n " + n, x.feed(0, n), BAD);
        }
        due("none came", x.count(4), 0);
        int all = 0;
        for (int n = 1; n <= 8; n++) {
            all += n;
            due("n " + n, x.feed(-1, n), all);
            due("count", x.count(4), all);
        }
        due("BAD leaves what there is", x.feed(0, 9), BAD);
        due("count", x.count(4), all);
    }

    private static void bytesOfAWord() {
        sentence(6, "the highest of them first");
        PigRounds x = new PigRounds();
        for (int n = 1; n <= 8; n++) {
            for (int place = 0; place < n; place++) {
                // Gaps and one sign; bytes of 255 above them, which must not come.
                long w = -1;
                for (int i = 0; i < n; i++) {
                    w = w << 8 | (i == place ? ';' : ' ');
                }
                due(n + " bytes", x.feed(w, n), n);
                due("the sign is byte " + place + " of " + n, x.land(), FAULTS - place);
            }
        }
        x.feed(0xA020202020202020L, 8);
        due("a first byte of 160 is no gap", x.land(), FAULTS);
        x.feed(0x202020202020208AL, 8);
        due("a last byte of 138 is no gap", x.land(), FAULTS - 7);
    }

    private static String spaces(int n) {
        return " ".repeat(n);
    }

    private static void roomOnTheTape() {
        sentence(6, "THE TAPE has at most 400 bytes; FULL: none comes");
        for (int n = 1; n <= 8; n++) {
            PigRounds x = new PigRounds();
            Due.feedText(x, HEAD + spaces(400 - n - HEAD.length()));
            due("ahead", x.count(4), 400 - n);
            for (int more = n + 1; more <= 8; more++) {
                due("room for " + n + ", not for " + more, x.feed(-1, more), FULL);
            }
            due("none came", x.count(4), 400 - n);
            due("n 9, ahead of FULL", x.feed(0, 9), BAD);
            due("n 0, ahead of FULL", x.feed(0, 0), BAD);
            due("just as many", x.feed(0x2020202020202020L, n), 400);
            due("one more", x.feed(' ', 1), FULL);
            due("n 9 on a full tape", x.feed(0, 9), BAD);
            due("status of FULL", x.status(), 0);
            due("it is read without them", x.land(), 0);
        }
    }

    private static void roomBehindReading() {
        sentence(7, "The tape, empty then, is read");
        PigRounds x = new PigRounds();
        Due.feedText(x, HEAD + spaces(400 - HEAD.length()));
        due("all 400", x.land(), 0);
        due("empty", x.count(4), 0);
        Due.feedText(x, HEAD + spaces(374) + ";");
        due("all 400", x.count(4), 400);
        due("the last byte", x.land(), FAULTS - 399);
        due("empty behind a FAULT, too", x.count(4), 0);
        due("what follows is read alone", Due.read(x, HEAD + ONE), 1);
        due("nothing is there any more", x.land(), FAULTS);
        due("the LAND stays", x.count(1), 1);
    }

    private static void endAtEachToken() {
        sentence(7, "the end: how many bytes there are");
        for (int tokens = 0; tokens < WHOLE.length; tokens++) {
            String text = upTo(tokens);
            boolean whole = tokens == 10 || tokens == 18 || tokens == 27;
            if (whole) {
                reads(text, (tokens - 9) / 8);
                reads(text + " \n ", (tokens - 9) / 8);
            } else {
                faults(text, text.length(), CANNOT_STAND);
                faults(text + " \n ", text.length() + 3, CANNOT_STAND);
            }
        }
        reads(upTo(WHOLE.length), 3);
    }

    private static void otherTokenAtEachPlace() {
        sentence(7, "1 it cannot stand there, or is none");
        String[] others = {"market", "start", "kind", "last", "mean", "told", "x", "markets", "5", "0", "999", ";", "1000",
            "A", "-", "1.", ",", ":", "'"};
        for (int place = 0; place < WHOLE.length; place++) {
            for (String other : others) {
                if (!mayStand(other, place)) {
                    faults(with(place, other), placeOf(place), CANNOT_STAND);
                }
            }
        }
    }

    private static boolean mayStand(String token, int place) {
        String due = WHOLE[place];
        if (due.matches("[0-9]+")) {
            // The figure of '1.' is a NUMBER, and what is none stands behind it.
            return token.matches("[0-9]{1,3}|1\\.");
        }
        boolean way = place == 11 || place == 19 || place == 28;
        return way ? token.matches("last|mean|told") : token.equals(due);
    }

    private static void tokenTooManyAtEachPlace() {
        sentence(7, "1 it cannot stand there: one too many");
        for (int place = 0; place < WHOLE.length; place++) {
            boolean number = WHOLE[place].matches("[0-9]+");
            boolean beforeNumber = number || place > 0 && WHOLE[place - 1].matches("[0-9]+");
            if (!number) {
                String extra = beforeNumber ? "1" : ";";
                faults(with(place, extra + " " + WHOLE[place]), placeOf(place), CANNOT_STAND);
            } else {
                faults(with(place, "; " + WHOLE[place]), placeOf(place), CANNOT_STAND);
            }
        }
    }

    private static void boundsOfNumbers() {
        sentence(7, "2 a NUMBER that is not as told");
        bounds("TOP", MARKET, 1, 99);
        bounds("DEPTH", MARKET + 1, 1, 20);
        bounds("FEED", MARKET + 2, 0, 20);
        bounds("PRICE of the last year", START, 0, 99);
        bounds("PRICE of the one ahead", START + 1, 0, 99);
        bounds("PRICE of the one ahead of that", START + 2, 0, 99);
        for (int first : new int[] {KIND_LAST, MEAN_K + 1, TREND_T + 1}) {
            bounds("MANY", first, 1, 40);
            bounds("BASE", first + 1, 0, 9);
            bounds("SLOPE", first + 2, 0, 20);
            bounds("RENT", first + 3, 0, 99);
        }
        bounds("k of a mean", MEAN_K, 1, 3);
        bounds("t of a trend", TREND_T, 0, 9);
        for (int coin : new int[] {0, 1, 998, 999}) {
            reads(with(KIND_LAST + 4, "" + coin), 3);
        }
        // One above is no NUMBER at all, as it has four figures.
        faults(with(KIND_LAST + 4, "1000"), placeOf(KIND_LAST + 4), CANNOT_STAND);
    }

    private static void bounds(String name, int place, int least, int most) {
        sentence(7, name + " (" + least + " to " + most + ")");
        reads(with(place, "" + least), 3);
        reads(with(place, "" + most), 3);
        faults(with(place, "" + (most + 1)), placeOf(place), NOT_AS_TOLD);
        faults(with(place, "999"), placeOf(place), NOT_AS_TOLD);
        if (least == 1) {
            faults(with(place, "0"), placeOf(place), NOT_AS_TOLD);
            faults(with(place, "000"), placeOf(place), NOT_AS_TOLD);
        }
        // There is no sign below 0.
        faults(with(place, "-1"), placeOf(place), CANNOT_STAND);
    }

    private static void figures() {
        sentence(7, "NUMBERS (figures, 3 at most)");
        reads(with(MARKET, "9"), 3);
        reads(with(MARKET, "09"), 3);
        reads(with(MARKET, "009"), 3);
        faults(with(MARKET, "0009"), placeOf(MARKET), CANNOT_STAND);
        faults(with(MARKET, "0000"), placeOf(MARKET), CANNOT_STAND);
        faults(with(MARKET, "9999999999999"), placeOf(MARKET), CANNOT_STAND);
        PigRounds x = Due.landOf("market 090 010 000;start 000 007 099;kind mean 003 040 009 020 099 099;");
        int[] want = {40, 9, 20, 99, 99};
        for (int what = 0; what < 5; what++) {
            due("as it is without 0 ahead of it: " + what, x.farmers(0, what), want[what]);
        }
        due("b", x.now(1), 7);
        // Bytes beside the figures: '/' is 47, ':' is 58.
        faults(with(MARKET, "/"), placeOf(MARKET), CANNOT_STAND);
        faults(with(MARKET, ":"), placeOf(MARKET), CANNOT_STAND);
        faults(with(MARKET, "9/"), placeOf(MARKET) + 1, CANNOT_STAND);
        faults(with(MARKET, "9:"), placeOf(MARKET) + 1, CANNOT_STAND);
    }

    private static void gaps() {
        sentence(7, "bytes 32 and 10 between");
        String ahead = "market 1 1 1;";
        for (int b = 0; b < 256; b++) {
            String text = ahead + (char) b + "start 1 1 1;";
            if (b == 32 || b == 10) {
                reads(text, 0);
                reads(ahead + "start" + (char) b + "1 1 1;" + (char) b, 0);
                reads((char) b + ahead + "start 1 1 1;", 0);
            } else {
                faults(text, ahead.length(), CANNOT_STAND);
            }
        }
        reads("\n \nmarket\n\n1  1\n1 \n;start 1 1 1;\n", 0);
        reads("market 1 1 1;start 1 1 1;kind last 1 1 1 1 1;kind told 1 1 1 1 1;", 2);
        // A gap within a word makes two of it, and within figures, too.
        faults("mar ket 1 1 1;", 0, CANNOT_STAND);
        faults("market 1 1 1 0;", 13, CANNOT_STAND);
        // Where a word is not at its end, no gap makes one of two.
        faults("market 1 1 1;start 1 1 1;kindlast 1 1 1 1 1;", 25, CANNOT_STAND);
        faults("market 11 1;", 11, CANNOT_STAND);
    }

    private static void letters() {
        sentence(7, "NAMES (letters a to z)");
        // Bytes beside the letters: '`' is 96, '{' is 123, and the great ones.
        for (char c : new char[] {'`', '{', '@', 'A', 'Z', '[', (char) 225, (char) 250}) {
            faults(HEAD + c, HEAD.length(), CANNOT_STAND);
            faults(HEAD + "kind last" + c + "1 1 1 1 1;", HEAD.length() + 9, CANNOT_STAND);
        }
        faults("Market 1 1 1;", 0, CANNOT_STAND);
        faults("marke 1 1 1;", 0, CANNOT_STAND);
        faults("marketa 1 1 1;", 0, CANNOT_STAND);
        faults("amarket 1 1 1;", 0, CANNOT_STAND);
        faults("markez 1 1 1;", 0, CANNOT_STAND);
        faults("zarket 1 1 1;", 0, CANNOT_STAND);
        faults("market 1 1 1;starts 1 1 1;", 13, CANNOT_STAND);
        faults("market 1 1 1;star 1 1 1;", 13, CANNOT_STAND);
        faults(HEAD + "kin last 1 1 1 1 1;", 25, CANNOT_STAND);
        for (char c : new char[] {'a', 's', 'z'}) {
            // One NAME, not two: its first byte is that of the whole.
            faults(HEAD + "kind" + c + " last 1 1 1 1 1;", 25, CANNOT_STAND);
            faults(HEAD + "kind last" + c + " 1 1 1 1 1;", 30, CANNOT_STAND);
        }
        faults(HEAD + "a".repeat(300), 25, CANNOT_STAND);
    }

    private static void ways() {
        sentence(7, "way: 'last' | 'mean' NUMBER | 'trend' NUMBER | 'contrary' | 'told' | 'wise'");
        String[] names = {"last", "mean", "trend", "contrary", "told", "wise"};
        for (int w = 0; w < 6; w++) {
            boolean numbered = w == 1 || w == 2;
            String head = HEAD + "kind " + names[w];
            PigRounds x = Due.landOf(head + (numbered ? " 3" : "") + " 1 1 1 1 1;");
            due(names[w], x.kind(0), w + 1);
            // One NUMBER too few, and one too many.
            int tooMany = (head + " 1 1 1 1 1 ").length();
            faults(head + " 1 1 1 1" + (numbered ? " 1;" : ";"), (head + " 1 1 1 1" + (numbered ? " 1" : "")).length(),
                CANNOT_STAND);
            faults(head + " 1 1 1 1 1 1" + (numbered ? " 1;" : ";"), tooMany + (numbered ? 2 : 0), CANNOT_STAND);
            String less = names[w].substring(0, names[w].length() - 1);
            faults(HEAD + "kind " + less + " 1 1 1 1 1 1;", 30, CANNOT_STAND);
            faults(HEAD + "kind " + names[w] + "s 1 1 1 1 1 1;", 30, CANNOT_STAND);
        }
    }

    private static void kindsThereIsRoomFor() {
        sentence(7, "A KIND (0 .. 4; 5 at most)");
        for (int kinds = 0; kinds <= 5; kinds++) {
            PigRounds x = Due.landOf(HEAD + ONE.repeat(kinds));
            due("count of " + kinds, x.count(1), kinds);
            due("the last of " + kinds, x.kind(kinds - 1), kinds == 0 ? BAD : 1);
            due("one beyond " + kinds, x.kind(kinds), BAD);
        }
        sentence(7, "3 a KIND more than there is room for (its word)");
        String five = HEAD + ONE.repeat(5);
        faults(five + ONE, five.length(), NO_ROOM);
        faults(five + "\n " + ONE, five.length() + 2, NO_ROOM);
        faults(five + "kind", five.length(), NO_ROOM);
        faults(five + "kind none", five.length(), NO_ROOM);
        faults(five + "kind last 0", five.length(), NO_ROOM);
        faults(five + "kinds", five.length(), CANNOT_STAND);
        faults(five + "start", five.length(), CANNOT_STAND);
        faults(five + ";", five.length(), CANNOT_STAND);
        faults(five + "1", five.length(), CANNOT_STAND);
        reads(five + " ", 5);
    }

    private static void whichFaultIsFirst() {
        sentence(7, "the first TOKEN that has one, of one TOKEN the least");
        faults("market 0 0 21;", 7, NOT_AS_TOLD);
        faults("market 1 0 x;", 9, NOT_AS_TOLD);
        faults("market 1 x 99;", 9, CANNOT_STAND);
        faults("market 100A", 7, NOT_AS_TOLD);
        faults("market 100", 7, NOT_AS_TOLD);
        faults("market 1 1 1 999;", 13, CANNOT_STAND);
        faults("market 1 1 21 1;", 11, NOT_AS_TOLD);
        faults(HEAD + "kind mean 4 99 99 99;", 35, NOT_AS_TOLD);
        faults(HEAD + ONE.repeat(4) + "kind last 0 1 1 1 1;" + ONE, 25 + 80 + 10, NOT_AS_TOLD);
    }

    private static void landStays() {
        sentence(7, "-1000100 less the place of a FAULT: the LAND stays");
        String[] wrong = {"", "market 9 9 9;", "market 9 9 9;start 9 9 9;kind wise 9 9 9 9 9;kind wise 9 9 9 9 999 ",
            "market 9 9 9;start 9 9 9;" + ONE.repeat(6), "market 9 9 9;start 9 9 9;!"};
        for (String text : wrong) {
            PigRounds x = Due.landOf("market 90 1 2;start 60 30 20;kind told 2 3 4 5 100;kind last 1 0 0 99 0;");
            x.print(10);
            x.ministry(99, 99, 4);
            // 2 farmers bring 3 and 4 times 10 by 10, 7 each: 14 pigs, of which 4 are bought.
            due("year 1", x.years(1), 80);
            dueTrue("a FAULT in '" + text + "'", Due.read(x, text) <= FAULTS);
            int[] now = {80, 60, 30, 14, 4, 320, 1};
            for (int what = 0; what < 7; what++) {
                due("now " + what + " behind '" + text + "'", x.now(what), now[what]);
            }
            int[] told = {2, 3, 4, 5, 100 + 7 * 78 - 5, 0, 10, 7};
            for (int what = 0; what < 8; what++) {
                due("farmers " + what + " behind '" + text + "'", x.farmers(0, what), told[what]);
            }
            due("KINDS", x.count(1), 2);
            due("OUT", x.farmers(1, 5), 1);
            due("the ministry is on", x.years(1), 80);
            due("THE PRINT", x.print(0), 10);
        }
    }

    private static void inPlaceOfTheOneBefore() {
        sentence(7, "THE YEAR is 0, THE PRINT the last PRICE, the ministry has none and is off");
        PigRounds x = Due.landOf("market 90 1 2;start 60 30 20;kind told 2 3 4 5 100;kind last 1 0 0 99 0;");
        x.print(10);
        x.ministry(99, 99, 4);
        x.years(3);
        due("OUT", x.count(3), 1);
        due("the same again", Due.read(x, "market 90 1 2;start 60 30 20;kind told 2 3 4 5 100;kind last 1 0 0 99 0;"), 2);
        int[] now = {60, 30, 20, 0, 0, 0, 0};
        for (int what = 0; what < 7; what++) {
            due("now " + what, x.now(what), now[what]);
        }
        due("COIN", x.farmers(0, 4), 100);
        due("none is OUT", x.count(3), 0);
        due("THE PRINT", x.print(10), 60);
        due("off", x.years(1), 76);
        due("has none", x.now(4), 0);
        due("on again, it has what it buys from now on", x.ministry(99, 99, 4), 1);
        x.years(1);
        due("has", x.now(4), 4);
        due("fewer KINDS", Due.read(x, HEAD + ONE), 1);
        due("KIND 1 is gone", x.kind(1), BAD);
        due("farmers", x.count(2), 1);
        due("no KINDS", Due.read(x, HEAD), 0);
        due("KIND 0 is gone", x.farmers(0, 0), BAD);
        due("as", x.as(0, 0), BAD);
        due("dies", x.dies(), 0);
    }

    private static void latestFault() {
        sentence(8, "The number of the latest FAULT; 0 before one");
        PigRounds x = new PigRounds();
        due("before one", x.fault(), 0);
        Due.read(x, HEAD);
        due("behind a LAND", x.fault(), 0);
        Due.read(x, HEAD + ONE.repeat(6));
        due("3", x.fault(), 3);
        Due.read(x, "market 0");
        due("2", x.fault(), 2);
        x.land();
        due("1", x.fault(), 1);
        Due.read(x, HEAD);
        due("a LAND leaves it", x.fault(), 1);
        Due.read(x, "market 0");
        due("2 again", x.fault(), 2);
        x.feed(0, 9);
        x.drop(0);
        x.years(0);
        due("refusals and FINDINGS are no FAULTS", x.fault(), 2);
    }
}
