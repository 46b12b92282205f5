/** What the tests of boundaries share: answers by name, and messages that name the promise and its sentence. */
abstract class Edges {
    static final int NONE = -1000000, BAD = -1000001, STATE = -1000002, FULL = -1000003;
    static final int NULL = -1000011, PLACE = -1000012, KIND = -1000013, SIZE = -1000014, STORE = -1000015;
    static final int LEAST = Integer.MIN_VALUE, MOST = Integer.MAX_VALUE;

    private static String sentence = "";

    /** Says of which promise, and of which sentence of it or of Terms, the answers that follow are. */
    static void sentence(int promise, String words) {
        sentence = "promise " + promise + ", '" + words + "': ";
    }

    static void due(String what, long got, long want) {
        Due.due(sentence + what, got, want);
    }

    static void dueTrue(String what, boolean it) {
        due(what, it ? 1 : 0, 1);
    }

    /** The ITEMS of a SHEET (not 7) from 0 on, which are 0 to 99: each must be the GUESS of last behind its PRICE. */
    static void dueItems(String what, PigRounds x, int sheet, int lane, int... want) {
        x.sheet(7, lane, 4);
        for (int i = 0; i < want.length; i++) {
            x.set(7, 0, want[i]);
            due(what + ", item " + i + " comes", x.copy(sheet, i, 7, 3, 1), 1);
            int ways = x.shown(7, 0, 1);
            dueTrue(what + ", item " + i + " is " + want[i], ways >= 0 && (ways & 1) == 1);
        }
        x.drop(7);
    }
}
