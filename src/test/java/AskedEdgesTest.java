/** Boundaries that Terms and promises 21 to 26 name: KINDS of GUESSERS, ASKS, THE TRACE, counts, status. */
public final class AskedEdgesTest extends Edges {
    // MANY is 3 and on; nobody brings any pigs.
    private static final String FIVE_WAYS = "market 90 10 2;start 60 30 20;kind last 3 0 0 0 9;kind mean 3 4 0 0 0 9;"
        + "kind trend 9 5 0 0 0 9;kind contrary 6 0 0 0 9;kind told 7 0 0 0 9;";
    private static final String WISE_LAST = "market 90 10 2;start 60 30 20;kind told 1 0 0 0 9;kind told 1 0 0 0 9;"
        + "kind told 1 0 0 0 9;kind told 1 0 0 0 9;kind wise 40 0 0 0 9;";

    public static void main(String[] args) {
        kinds();
        asNumbers();
        asEachKind();
        askNumbers();
        askLast();
        askMean();
        askTrendAndContrary();
        askToldAndWise();
        traceIsEmptyAhead();
        tracePlaces();
        countNumbers();
        countSheetsAndBytes();
        countKindsAndFarmers();
        countOut();
        statusOfEachFinding();
        statusStaysBehindRefusals();
        statusStaysBehindOtherCalls();
        Due.end();
    }

    private static void kinds() {
        sentence(21, "as it is told (1 to 6). BAD");
        PigRounds x = Due.landOf(FIVE_WAYS);
        for (int k = 0; k < 5; k++) {
            due("KIND " + k, x.kind(k), k + 1);
        }
        for (int k : new int[] {-1, 5, LEAST, MOST}) {
            due("KIND " + k, x.kind(k), BAD);
        }
        PigRounds y = Due.landOf(WISE_LAST);
        due("wise", y.kind(4), 6);
        due("told", y.kind(3), 5);
        PigRounds one = Due.landOf("market 9 9 9;start 1 1 1;kind wise 1 0 0 9 0;");
        due("the only one", one.kind(0), 6);
        due("one beyond", one.kind(1), BAD);
        one.years(1);
        due("OUT", one.farmers(0, 5), 1);
        due("an OUT KIND is there", one.kind(0), 6);
    }

    private static void asNumbers() {
        sentence(22, "GUESSERS of a KIND (0 .. 6). BAD; KIND: they are no such ones");
        PigRounds x = Due.landOf(FIVE_WAYS);
        x.as(0, 6);
        due("status ahead", x.status(), 3);
        for (int g : new int[] {-1, 7, LEAST, MOST}) {
            due("GUESSERS " + g, x.as(0, g), BAD);
        }
        for (int k : new int[] {-1, 5, LEAST, MOST}) {
            due("KIND " + k, x.as(k, 0), BAD);
            due("KIND " + k + ", ahead of KIND", x.as(k, 6), BAD);
        }
        due("BAD leaves status", x.status(), 3);
        due("GUESSERS 0", x.as(4, 0), 7);
        due("status", x.status(), 0);
        due("GUESSERS 6", x.as(4, 6), KIND);
        due("status", x.status(), 3);
        PigRounds y = Due.landOf(WISE_LAST);
        due("GUESSERS 6 of wise ones", y.as(4, 6), 40);
    }

    private static void asEachKind() {
        sentence(22, "1 LAST, a GUESSER; 2 MEAN, a LAST one; 3 TREND, a LAST one; 4 CONTRARY, a TREND one; "
            + "5 TOLD, a GUESSER; 6 WISE, a TOLD one");
        int[][] are = {{0, 1}, {0, 1, 2}, {0, 1, 3}, {0, 1, 3, 4}, {0, 5}, {0, 5, 6}};
        PigRounds x = Due.landOf(FIVE_WAYS);
        PigRounds y = Due.landOf(WISE_LAST);
        for (int way = 0; way < 6; way++) {
            for (int g = 0; g < 7; g++) {
                boolean is = false;
                for (int it : are[way]) {
                    is |= it == g;
                }
                int got = way < 5 ? x.as(way, g) : y.as(4, g);
                due((way + 1) + " as " + g, got, is ? (way < 5 ? 3 + way : 40) : KIND);
            }
        }
    }

    private static void askNumbers() {
        sentence(23, "An ASK (0, 1) of a KIND. BAD");
        PigRounds x = Due.landOf(FIVE_WAYS);
        x.ask(3, 0);
        for (int what : new int[] {-1, 2, LEAST, MOST}) {
            due("ask " + what, x.ask(0, what), BAD);
        }
        for (int k : new int[] {-1, 5, LEAST, MOST}) {
            due("KIND " + k, x.ask(k, 0), BAD);
        }
        dueTrace("what was refused leaves THE TRACE", x, 13, 12, 11, 10, 20);
        due("SIZE", x.ask(0, 0), 3);
        due("MARK", x.ask(0, 1), 0);
        due("no LAND", new PigRounds().ask(0, 1), BAD);
    }

    private static void dueTrace(String what, PigRounds x, int... bodies) {
        for (int i = 0; i < bodies.length; i++) {
            due(what + ": trace " + i, x.trace(i), bodies[i]);
        }
        due(what + ": no more", x.trace(bodies.length), NONE);
    }

    private static void asks(PigRounds x, int kind, int what, int want, int... bodies) {
        due("ask " + kind + " " + what, x.ask(kind, what), want);
        dueTrace("ask " + kind + " " + what, x, bodies);
    }

    private static void askLast() {
        sentence(23, "11 of LAST ones: what 10 gives, and MARK; MARK: its number");
        String one = "kind last 40 0 0 0 9;";
        PigRounds x = Due.landOf("market 9 9 9;start 1 1 1;" + one.repeat(5));
        for (int k = 0; k < 5; k++) {
            asks(x, k, 0, 40 + k, 11, 10, 20);
            asks(x, k, 1, k, 20);
        }
    }

    private static void askMean() {
        sentence(23, "21 of MEAN ones: what 20 gives, and 10 times k");
        PigRounds x = Due.landOf("market 9 9 9;start 1 1 1;kind mean 1 1 0 0 0 9;kind mean 2 1 0 0 0 9;kind mean 3 1 0 0 0 9;");
        for (int k = 0; k < 3; k++) {
            asks(x, k, 1, k + 10 * (k + 1), 21, 20);
            asks(x, k, 0, 1 + k + 10 * (k + 1), 11, 10, 21, 20);
        }
    }

    private static void askTrendAndContrary() {
        sentence(23, "12 of TREND ones: what 11 gives, twice; 13 of CONTRARY ones: 0 less what 12 gives");
        PigRounds x = Due.landOf(FIVE_WAYS);
        asks(x, 2, 0, 2 * (5 + 2), 12, 11, 10, 20);
        asks(x, 2, 1, 2, 20);
        asks(x, 3, 0, -2 * (6 + 3), 13, 12, 11, 10, 20);
        asks(x, 3, 1, 3, 20);
    }

    private static void askToldAndWise() {
        sentence(23, "14 of WISE ones: what 10 gives, times 3; 22 of TOLD ones: what 20 gives, and THE PRINT; "
            + "23 of WISE ones: what 22 gives, and SIZE");
        PigRounds x = Due.landOf(WISE_LAST);
        for (int p : new int[] {60, 0, 99}) {
            x.print(p);
            asks(x, 3, 0, 1, 10);
            asks(x, 3, 1, 3 + p, 22, 20);
            asks(x, 4, 0, 120, 14, 10);
            asks(x, 4, 1, 4 + p + 120, 23, 22, 20, 14, 10);
        }
        PigRounds out = Due.landOf("market 9 9 9;start 7 1 1;kind wise 2 0 0 9 0;");
        out.years(1);
        due("OUT", out.farmers(0, 5), 1);
        asks(out, 0, 1, 7 + 6, 23, 22, 20, 14, 10);
    }

    private static void traceIsEmptyAhead() {
        sentence(23, "THE TRACE is empty ahead of it");
        PigRounds x = Due.landOf(FIVE_WAYS);
        asks(x, 3, 0, -18, 13, 12, 11, 10, 20);
        asks(x, 3, 1, 3, 20);
        asks(x, 3, 0, -18, 13, 12, 11, 10, 20);
        x.as(3, 1);
        x.kind(3);
        x.years(1);
        dueTrace("other calls leave it", x, 13, 12, 11, 10, 20);
    }

    private static void tracePlaces() {
        sentence(24, "Number i of THE TRACE; NONE");
        // The longest TRACE there can be has five numbers, so the sixteenth is never reached.
        PigRounds x = Due.landOf(FIVE_WAYS);
        for (int i = 0; i < 17; i++) {
            due("before an ASK: " + i, x.trace(i), NONE);
        }
        x.ask(3, 0);
        due("0", x.trace(0), 13);
        due("4", x.trace(4), 20);
        for (int i : new int[] {5, 15, 16, 17, -1, LEAST, MOST}) {
            due("" + i, x.trace(i), NONE);
        }
        due("status", x.status(), 0);
    }

    private static void countNumbers() {
        sentence(25, "0 SHEETS .. 4 bytes on the tape. BAD");
        PigRounds x = new PigRounds();
        for (int what : new int[] {-1, 5, LEAST, MOST}) {
            due("" + what, x.count(what), BAD);
        }
        for (int what = 0; what < 5; what++) {
            due("" + what, x.count(what), 0);
        }
    }

    private static void countSheetsAndBytes() {
        sentence(25, "How many: 0 SHEETS, 4 bytes on the tape");
        PigRounds x = new PigRounds();
        for (int s = 7; s >= 0; s--) {
            x.sheet(s, s % 3, 0);
            due("SHEETS", x.count(0), 8 - s);
        }
        x.sheet(0, 0, 60);
        due("the same anew", x.count(0), 8);
        for (int s = 0; s < 8; s++) {
            x.drop(s);
            due("SHEETS", x.count(0), 7 - s);
        }
        for (int i = 1; i <= 50; i++) {
            x.feed(0, 8);
            due("bytes", x.count(4), 8 * i);
        }
        x.feed(0, 1);
        due("no more", x.count(4), 400);
        x.land();
        due("none", x.count(4), 0);
    }

    private static void countKindsAndFarmers() {
        sentence(25, "How many: 1 KINDS, 2 farmers");
        String forty = "kind last 40 0 0 0 0;";
        for (int kinds = 0; kinds <= 5; kinds++) {
            PigRounds x = Due.landOf("market 9 9 9;start 1 1 1;" + forty.repeat(kinds));
            due("KINDS", x.count(1), kinds);
            due("farmers", x.count(2), 40 * kinds);
        }
        PigRounds y = Due.landOf(FIVE_WAYS);
        due("farmers", y.count(2), 25);
        Due.read(y, "market 9 9 9;start 1 1 1;kind last 1 0 0 0 0;");
        due("of the LAND now", y.count(2), 1);
        Due.read(y, "market 9 9 9;start 1 1 1;kind last 2 0 0 0 0;kind");
        due("not of one that was not read", y.count(2), 1);
    }

    private static void countOut() {
        sentence(25, "How many: 3 KINDS that are OUT");
        // One goes OUT each YEAR.
        PigRounds x = Due.landOf("market 9 9 9;start 1 1 1;kind last 2 0 0 9 0;kind last 2 0 0 9 9;kind last 2 0 0 9 18;"
            + "kind last 2 0 0 9 27;kind last 2 0 0 9 36;");
        for (int out = 0; out <= 5; out++) {
            due("OUT", x.count(3), out);
            due("KINDS", x.count(1), 5);
            due("farmers", x.count(2), 10);
            x.years(1);
        }
        due("OUT", x.count(3), 5);
    }

    private static void statusOfEachFinding() {
        sentence(26, "the number of its FINDING; 0: it had none, or there was none");
        PigRounds x = Due.landOf(FIVE_WAYS);
        due("there was none", x.status(), 0);
        found(x, "set", x.set(0, 0, 0), NULL);
        fine(x, "sheet", x.sheet(0, 0, 4), 4);
        found(x, "copy", x.copy(0, 0, 1, 0, 0), NULL);
        fine(x, "set", x.set(0, 0, 1), 1);
        found(x, "drop", x.drop(1), NULL);
        fine(x, "copy", x.copy(0, 0, 0, 0, 0), 0);
        found(x, "shown", x.shown(1, 0, 1), NULL);
        // 1 0 0 and a GUESS of 0: both means, and contrary.
        fine(x, "shown", x.shown(0, 0, 1), 0b1000000000110);
        found(x, "set", x.set(0, 4, 0), PLACE);
        fine(x, "as", x.as(0, 0), 3);
        found(x, "copy", x.copy(0, 0, 0, 4, 1), PLACE);
        fine(x, "sheet", x.sheet(1, 1, 0), 0);
        found(x, "shown", x.shown(0, 1, 1), PLACE);
        fine(x, "drop", x.drop(1), 0);
        found(x, "as", x.as(0, 2), KIND);
        found(x, "sheet", x.sheet(0, 0, -1), SIZE);
        x.sheet(1, 1, 1);
        found(x, "copy", x.copy(0, 0, 1, 0, 1), STORE);
        found(x, "as", x.as(0, 2), KIND);
    }

    private static void found(PigRounds x, String call, int got, int finding) {
        due(call, got, finding);
        due(call + ": status", x.status(), -1000010 - finding);
        due(call + ": status again", x.status(), -1000010 - finding);
    }

    private static void fine(PigRounds x, String call, int got, int want) {
        due(call, got, want);
        due(call + ": status", x.status(), 0);
    }

    private static void statusStaysBehindRefusals() {
        sentence(26, "Of the latest call that was not BAD, STATE, FULL");
        PigRounds x = new PigRounds();
        x.sheet(0, 2, 4);
        x.set(0, 0, 100);
        x.copy(0, 0, 0, 0, 5);
        due("status", x.status(), 2);
        refusedBySheets(x);
        x.years(1);
        x.years(0);
        x.kind(0);
        x.count(9);
        for (int i = 0; i < 51; i++) {
            x.feed(0, 8);
        }
        due("STATE, BAD and FULL of other calls", x.status(), 2);
        x.sheet(1, 0, 0);
        due("status", x.status(), 0);
        refusedBySheets(x);
        due("0 stays, too", x.status(), 0);
    }

    /** Calls with a SHEET, and as(), each of them BAD. */
    private static void refusedBySheets(PigRounds x) {
        int before = x.status();
        int[] got = {x.sheet(8, 0, 0), x.sheet(0, 3, 0), x.sheet(0, 0, 61), x.set(8, 0, 0), x.copy(8, 0, 0, 0, 0),
            x.copy(0, 0, -1, 0, 0), x.drop(8), x.shown(8, 0, 1), x.shown(0, 0, 0), x.shown(0, 0, 1), x.as(0, 0), x.as(-1, 9)};
        for (int i = 0; i < got.length; i++) {
            due("refused " + i, got[i], BAD);
        }
        due("status stays", x.status(), before);
    }

    private static void statusStaysBehindOtherCalls() {
        sentence(26, "Of the latest call with a SHEET, or as()");
        PigRounds x = Due.landOf(FIVE_WAYS);
        x.drop(0);
        x.feed(0, 1);
        x.land();
        x.fault();
        x.farmers(0, 0);
        x.print(1);
        x.ministry(0, 0, 0);
        x.years(1);
        x.now(0);
        x.dies();
        x.steep();
        x.round(0);
        x.bears(1, 1);
        x.prints(0);
        x.calm(1, 1);
        x.kind(0);
        x.ask(0, 0);
        x.trace(0);
        x.count(0);
        due("NULL of drop", x.status(), 1);
        due("a LAND", Due.read(x, FIVE_WAYS), 5);
        due("NULL of drop", x.status(), 1);
    }
}
