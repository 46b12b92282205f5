/** Boundaries that Terms and promises 14 to 20 name: whether a round dies out, how steep, ROUND, BEARS, .., SHOWN. */
public final class RoundEdgesTest extends Edges {
    private static final int DIES = 0, EDGE = 1, GROWS = 2;

    public static void main(String[] args) {
        diesByOneWay();
        diesByTwoWays();
        diesWithWiseAndTold();
        diesWithoutThoseWhoAreOut();
        steep();
        roundNumbers();
        roundFromNow();
        roundYears();
        roundOut();
        bearsNumbers();
        bearsNoLess();
        bearsUpToForty();
        bearsWithOneAndWithTwo();
        bearsByYears();
        bearsThoseWhoAreOut();
        printsNumbers();
        truePrints();
        calmNumbers();
        calmApart();
        calmWhatIsTried();
        calmCostsLeast();
        shownNumbers();
        shownPlaces();
        shownItems();
        shownWays();
        shownAllRows();
        Due.end();
    }

    // ---- DIES, STEEP

    private static void dies(String depth, String kinds, int want) {
        due(kinds + " at DEPTH " + depth, Due.landOf("market 9 " + depth + " 0;start 1 1 1;" + kinds).dies(), want);
    }

    /** A way whose PULL is just at the edge, one below it, and one above. */
    private static void edgeOf(String way, String depth, String below, String at, String above) {
        dies(depth, "kind " + way + " " + below + " 0 0;", DIES);
        dies(depth, "kind " + way + " " + at + " 0 0;", EDGE);
        dies(depth, "kind " + way + " " + above + " 0 0;", GROWS);
    }

    private static void diesByOneWay() {
        sentence(14, "n0 and n2 (added, without sign) below D and n1");
        dies("1", "", DIES);
        dies("1", "kind last 40 9 0 0 0;", DIES);
        edgeOf("last", "1", "9 0 1", "10 0 1", "11 0 1");
        edgeOf("mean 1", "1", "9 0 1", "10 0 1", "11 0 1");
        edgeOf("last", "19", "27 0 7", "19 0 10", "38 0 6");
        edgeOf("trend 0", "1", "9 0 1", "10 0 1", "11 0 1");
        // trend 1: 33, -3: 36 times the PULL against D; trend 5: 60; trend 9: 84.
        edgeOf("trend 1", "3", "24 0 1", "25 0 1", "26 0 1");
        edgeOf("trend 5", "1", "4 0 1", "5 0 1", "6 0 1");
        edgeOf("trend 9", "7", "24 0 1", "25 0 1", "26 0 1");
        // n2 counts, too. last 9 and mean 3 of q: 270 and 10 q, 10 q, 10 q against 300: q is 3 at the edge.
        dies("1", "kind last 9 0 1 0 0;kind mean 3 2 0 1 0 0;", DIES);
        dies("1", "kind last 9 0 1 0 0;kind mean 3 3 0 1 0 0;", EDGE);
        dies("1", "kind last 9 0 1 0 0;kind mean 3 4 0 1 0 0;", GROWS);
        // last 11 and contrary of q: 330 less 10 q, 20 q, 20 q: more contrary ones calm, up to a point.
        dies("1", "kind last 11 0 1 0 0;kind contrary 2 0 1 0 0;", GROWS);
        dies("1", "kind last 11 0 1 0 0;kind contrary 3 0 1 0 0;", EDGE);
        dies("1", "kind last 11 0 1 0 0;kind contrary 4 0 1 0 0;", DIES);
        sentence(14, "n1 times D less n0 times n2 (without sign) below D times D less n2 times n2");
        edgeOf("mean 2", "1", "19 0 1", "20 0 1", "21 0 1");
        // -1640, 3280, 3280: 25059200 against 25241600; -1650, 3300, 3300: 25245000 against 25110000.
        dies("20", "kind contrary 20 0 8 0 0;kind contrary 4 0 1 0 0;", DIES);
        dies("20", "kind contrary 33 0 5 0 0;", GROWS);
        sentence(14, "n2 (without its sign) below D");
        edgeOf("mean 3", "1", "29 0 1", "30 0 1", "31 0 1");
        // 20 times the PULL is D at 15, but the third is above long before.
        dies("1", "kind contrary 8 0 1 0 0;", DIES);
        dies("1", "kind contrary 9 0 1 0 0;", GROWS);
    }

    private static void diesByTwoWays() {
        sentence(14, "It GROWS, if in one of these three what should be below is above; else it stands AT THE EDGE");
        // last of 10: 300; mean 2 of 1: 15, 15: the second is at its edge, the others are below.
        dies("1", "kind last 10 0 1 0 0;kind mean 2 1 0 1 0 0;", EDGE);
        dies("1", "kind last 9 0 1 0 0;kind mean 2 1 0 1 0 0;", DIES);
        dies("1", "kind last 11 0 1 0 0;kind mean 2 1 0 1 0 0;", GROWS);
        // mean 2 of 20: the third is at its edge.
        dies("1", "kind last 9 0 1 0 0;kind mean 2 20 0 1 0 0;", EDGE);
        dies("1", "kind last 10 0 1 0 0;kind mean 2 20 0 1 0 0;", EDGE);
        // One at its edge, another above.
        dies("1", "kind last 11 0 1 0 0;kind mean 2 20 0 1 0 0;", GROWS);
        dies("1", "kind last 10 0 1 0 0;kind mean 2 21 0 1 0 0;", GROWS);
        // n2 at its edge by mean 3 of 30, the second above by last of 1.
        dies("1", "kind last 1 0 1 0 0;kind mean 3 30 0 1 0 0;", GROWS);
        // 300, 360, 360 against 300: the second at its edge, the first above, and so the third.
        dies("1", "kind last 16 0 1 0 0;kind contrary 18 0 1 0 0;", GROWS);
        // trend 5 of 20: 900, -300: the third at its edge, the second above.
        dies("1", "kind trend 5 20 0 1 0 0;", GROWS);
    }

    private static void diesWithWiseAndTold() {
        sentence(14, "D: 300 times DEPTH, and 30 times PULL of wise ones, added");
        String wise = "kind wise 5 0 2 0 0;";
        dies("1", wise, DIES);
        dies("1", wise + "kind last 19 0 1 0 0;", DIES);
        dies("1", wise + "kind last 20 0 1 0 0;", EDGE);
        dies("1", wise + "kind last 21 0 1 0 0;", GROWS);
        String told = "kind told 40 0 20 0 0;";
        dies("1", told, DIES);
        dies("1", told + "kind last 9 0 1 0 0;", DIES);
        dies("1", told + "kind last 10 0 1 0 0;", EDGE);
        dies("1", told + "kind last 11 0 1 0 0;", GROWS);
        // Beyond what an int holds: D is 6000 and 30 times 2400; n0 and n1 are 15 times 1600.
        String forty = "kind wise 40 0 20 0 0;";
        String two = "kind mean 2 40 0 20 0 0;";
        dies("20", forty + forty + forty + two + two, DIES);
        dies("20", forty + two + two + two + two, GROWS);
        // D is 6000 and 24000; 15 times 2000 is at the edge.
        dies("20", forty + two + two + "kind mean 2 20 0 20 0 0;", EDGE);
        dies("20", forty + two + two + "kind mean 2 21 0 19 0 0;", DIES);
        dies("20", forty + two + two + "kind mean 2 21 0 20 0 0;", GROWS);
        dies("20", "kind last 40 0 20 0 0;" + "kind trend 9 40 0 20 0 0;" + two + two + two, GROWS);
    }

    private static void diesWithoutThoseWhoAreOut() {
        sentence(14, "PULL of a KIND that is not OUT");
        PigRounds x = Due.landOf("market 9 1 0;start 1 1 1;kind last 10 0 1 0 0;kind wise 1 0 20 99 0;");
        due("300 below 900", x.dies(), DIES);
        due("how steep", x.steep(), 1);
        x.years(1);
        due("the wise one is OUT", x.farmers(1, 5), 1);
        due("300 against 300", x.dies(), EDGE);
        due("how steep", x.steep(), 2);
        PigRounds y = Due.landOf("market 9 1 0;start 1 1 1;kind last 10 0 1 99 0;kind last 9 0 1 0 0;");
        due("both", y.dies(), GROWS);
        y.years(1);
        due("one", y.dies(), DIES);
    }

    private static void steep() {
        sentence(15, "the least DEPTH (1 to 20) with which it DIES; NONE");
        int[][] pulls = {{9, 1, 1}, {10, 1, 2}, {11, 1, 2}, {19, 1, 2}, {20, 1, 3}, {19, 10, 20}, {33, 6, 20}, {20, 10, NONE},
            {40, 20, NONE}, {1, 0, 1}};
        for (int[] p : pulls) {
            for (int depth : new int[] {1, 20}) {
                PigRounds x = Due.landOf("market 9 " + depth + " 0;start 1 1 1;kind last " + p[0] + " 0 " + p[1] + " 0 0;");
                int dies = x.dies();
                due("PULL " + p[0] + " times " + p[1] + " at DEPTH " + depth, x.steep(), p[2]);
                due("DEPTH stays " + depth, x.dies(), dies);
            }
        }
        // 199 is MANY times SLOPE of two KINDS.
        due("PULL 199", Due.landOf("market 9 1 0;start 1 1 1;kind last 19 0 10 0 0;kind last 9 0 1 0 0;").steep(), 20);
        due("no KINDS", Due.landOf("market 9 20 0;start 1 1 1;").steep(), 1);
        due("no LAND", new PigRounds().steep(), STATE);
    }

    // ---- ROUND

    private static void roundOf(String text, int p, int t) {
        PigRounds x = Due.landOf(text);
        due("p of " + text, x.round(0), p);
        due("t of " + text, x.round(1), t);
        due("p again", x.round(0), p);
        due("tried on a copy", x.now(6), 0);
    }

    private static void roundNumbers() {
        sentence(16, "p (what = 0; NONE), t (1; NONE). BAD; STATE: no LAND");
        PigRounds x = new PigRounds();
        for (int what : new int[] {-1, 2, LEAST, MOST}) {
            due(what + ", ahead of STATE", x.round(what), BAD);
        }
        due("0 without a LAND", x.round(0), STATE);
        due("1 without a LAND", x.round(1), STATE);
        Due.read(x, "market 50 2 1;start 50 50 50;");
        for (int what : new int[] {-1, 2, LEAST, MOST}) {
            due("" + what, x.round(what), BAD);
        }
    }

    private static void roundFromNow() {
        sentence(16, "behind t less p YEARS (0: now)");
        roundOf("market 50 2 1;start 50 50 50;", 1, 1);
        // Each of a, b and c counts: 50 comes in place of what is there one by one.
        roundOf("market 50 2 1;start 50 50 49;", 1, 2);
        roundOf("market 50 2 1;start 50 49 50;", 1, 3);
        roundOf("market 50 2 1;start 49 50 50;", 1, 4);
        // 99 less x: 10 and 89 by turns; now is met again, or the YEAR behind it.
        roundOf("market 99 1 0;start 10 89 10;kind last 1 0 10 0 999;", 2, 2);
        roundOf("market 99 1 0;start 10 89 11;kind last 1 0 10 0 999;", 2, 3);
    }

    private static void roundYears() {
        sentence(16, "the first t (1 to 60)");
        roundOf("market 46 19 0;start 86 30 36;kind last 8 2 1 0 999;kind contrary 9 1 16 0 999;", 5, 60);
        // This one comes back by 11 YEARS, but behind 61.
        roundOf("market 56 16 0;start 80 7 99;kind contrary 12 2 18 0 999;kind mean 3 1 0 8 0 999;", NONE, NONE);
        sentence(16, "for some p of 1 to 30");
        roundOf("market 83 17 0;start 41 67 49;kind mean 3 16 4 19 0 999;kind contrary 21 5 3 0 999;"
            + "kind mean 3 23 0 4 0 999;", 30, 45);
        // This one comes back by 31 YEARS, behind 35.
        roundOf("market 27 19 0;start 23 82 63;kind contrary 7 9 4 0 999;kind mean 1 8 2 5 0 999;"
            + "kind contrary 37 1 5 0 999;", NONE, NONE);
    }

    private static void roundOut() {
        sentence(16, "PRICES a, b, c and the KINDS that are OUT are what they were");
        // The PRICE is always 50, but somebody who brings nothing goes OUT in YEAR 1, and another in YEAR 2.
        roundOf("market 50 2 1;start 50 50 50;kind last 1 0 0 9 9;", 1, 1);
        roundOf("market 50 2 1;start 50 50 50;kind last 1 0 0 9 8;", 1, 2);
        roundOf("market 50 2 1;start 50 50 50;kind last 1 0 0 9 8;kind last 1 0 0 9 17;", 1, 3);
        // The fifth KIND is OUT, and c is one less: not what they were.
        roundOf("market 50 2 1;start 50 50 51;" + "kind last 1 0 0 0 9;".repeat(4) + "kind last 1 0 0 9 8;", 1, 2);
        // 1, 0, 99 behind 0, 99, 99, and 1, 1, 0 behind 1, 0, 99: not what they were.
        roundOf("market 1 1 0;start 0 99 99;", 1, 4);
        roundOf("market 1 1 0;start 1 0 99;", 1, 3);
        // COIN is no part of it, nor what the ministry has.
        PigRounds x = Due.landOf("market 50 1 1;start 0 0 0;kind last 10 9 0 0 999;");
        x.ministry(99, 99, 1);
        due("the ministry buys more and more", x.round(0), 1);
        due("t", x.round(1), 1);
    }

    // ---- BEARS

    private static void bearsNumbers() {
        sentence(17, "BEARS by n YEARS (1 to 30). BAD: KIND (0, too), n");
        PigRounds none = new PigRounds();
        due("no LAND", none.bears(1, 1), BAD);
        due("no LAND, KIND 0", none.bears(0, 1), BAD);
        PigRounds x = Due.landOf("market 90 10 1;start 20 20 20;kind last 1 1 5 0 10;kind last 3 1 5 0 10;");
        for (int kind : new int[] {-1, 0, 2, 5, LEAST, MOST}) {
            due("KIND " + kind, x.bears(kind, 1), BAD);
        }
        for (int n : new int[] {-1, 0, 31, LEAST, MOST}) {
            due("n " + n, x.bears(1, n), BAD);
        }
        due("n 1", x.bears(1, 1), 40);
        due("n 30", x.bears(1, 30), 40);
        due("of one KIND alone", Due.landOf("market 9 9 9;start 1 1 1;kind last 1 1 1 1 1;").bears(1, 1), BAD);
        String alike = "kind last 1 1 1 1 1;";
        PigRounds five = Due.landOf("market 9 9 9;start 1 1 1;" + alike.repeat(5));
        due("KIND 4", five.bears(4, 1), 40);
        due("KIND 5", five.bears(5, 1), BAD);
    }

    private static void bears(String text, int n, int want) {
        PigRounds x = Due.landOf(text);
        int many = x.farmers(1, 0);
        due(text + " by " + n, x.bears(1, n), want);
        due("MANY stays", x.farmers(1, 0), many);
        due("THE YEAR stays", x.now(6), 0);
    }

    private static void bearsNoLess() {
        sentence(17, "no less COIN than one of KIND 0");
        bears("market 90 10 1;start 20 20 20;kind last 1 1 5 3 10;kind last 3 1 5 3 10;", 1, 40);
        bears("market 90 10 1;start 20 20 20;kind last 1 1 5 3 10;kind last 3 1 5 4 10;", 1, 0);
        bears("market 90 10 1;start 20 20 20;kind last 1 1 5 3 10;kind last 3 1 5 2 10;", 1, 40);
        // What they had ahead is not gained.
        bears("market 90 10 1;start 20 20 20;kind last 1 1 5 3 999;kind last 3 1 5 3 10;", 1, 40);
        bears("market 90 10 1;start 20 20 20;kind last 1 1 5 3 10;kind last 3 1 5 4 999;", 1, 0);
    }

    private static void bearsUpToForty() {
        sentence(17, "the greatest m (0 to 40)");
        // 1 pig of KIND 0 and 2 m: 98 less 2 m, less FEED; the second pig pays as long as that is not below 0.
        bears("market 99 1 20;start 0 0 0;kind last 1 1 0 0 900;kind last 40 2 0 0 900;", 1, 39);
        bears("market 99 1 20;start 0 0 0;kind last 1 1 0 0 900;kind last 5 2 0 0 900;", 1, 39);
        bears("market 99 1 19;start 0 0 0;kind last 1 1 0 0 900;kind last 1 2 0 0 900;", 1, 39);
        bears("market 99 1 18;start 0 0 0;kind last 1 1 0 0 900;kind last 1 2 0 0 900;", 1, 40);
        bears("market 99 1 0;start 0 0 0;kind last 1 1 0 0 900;kind last 1 2 0 0 900;", 1, 40);
        bears("market 23 1 20;start 0 0 0;kind last 1 1 0 0 900;kind last 40 2 0 0 900;", 1, 1);
        bears("market 22 1 20;start 0 0 0;kind last 1 1 0 0 900;kind last 40 2 0 0 900;", 1, 0);
    }

    private static void bearsWithOneAndWithTwo() {
        sentence(17, "so that with 1, and with 2, .., and with m farmers in it");
        // 42 pigs of KIND 0, 5 m of the other: with 1 farmer 5 times 3 is less than 6 times 3; with more the PRICE is 0.
        bears("market 50 1 0;start 50 99 20;kind last 7 6 0 0 999;kind told 6 5 0 0 10;", 1, 0);
        // With 1: 82 against 55; with 2: -70 against -10; with 3: 59 against -10 (KIND 0 is OUT a YEAR before).
        bears("market 30 2 5;start 0 0 10;kind trend 5 6 5 0 0 0;kind mean 2 2 5 16 0 999;", 3, 1);
    }

    private static void bearsByYears() {
        sentence(17, "gains, by n YEARS");
        // YEAR 1: nothing against 50. YEAR 2: 50 pigs each at 50 less (1 and 50 m) by 10: up to 9 it pays.
        String text = "market 50 10 0;start 0 0 0;kind last 1 1 0 0 0;kind last 1 0 10 0 0;";
        bears(text, 1, 0);
        bears(text, 2, 9);
    }

    private static void bearsThoseWhoAreOut() {
        sentence(17, "What is tried is tried on a copy of all as it is now: OUT ones gain nothing");
        due("against nothing", bearsOut("kind last 1 0 0 0 9;"), 40);
        due("against a gain", bearsOut("kind last 1 1 0 0 9;"), 0);
        due("against a loss", bearsOut("kind last 1 0 0 1 99;"), 40);
    }

    /** BEARS of a KIND that is OUT, beside this KIND 0. */
    private static int bearsOut(String first) {
        PigRounds x = Due.landOf("market 5 1 0;start 0 0 0;" + first + "kind last 1 1 0 99 0;");
        x.years(1);
        due("it is OUT", x.farmers(1, 5), 1);
        return x.bears(1, 5);
    }

    // ---- TRUE PRINTS

    private static void printsNumbers() {
        sentence(18, "how many (i = -1); the i-th; NONE: not so many. BAD: i below -1; STATE: no LAND");
        PigRounds x = new PigRounds();
        for (int i : new int[] {-2, LEAST}) {
            due(i + ", ahead of STATE", x.prints(i), BAD);
        }
        for (int i : new int[] {-1, 0, MOST}) {
            due(i + " without a LAND", x.prints(i), STATE);
        }
        // x is 8 x pigs, 4 x by DEPTH: 12 is 60 less 48. 13 is 60 less 52, 8: below LOW, 10 are bought: 60 less 47.
        Due.read(x, "market 60 2 0;start 1 1 1;kind told 4 0 20 0 0;");
        due("-2", x.prints(-2), BAD);
        due("one", x.prints(-1), 1);
        due("0", x.prints(0), 12);
        due("1", x.prints(1), NONE);
        x.ministry(10, 11, 10);
        due("two", x.prints(-1), 2);
        due("0", x.prints(0), 12);
        due("1", x.prints(1), 13);
        due("2", x.prints(2), NONE);
        due("MOST", x.prints(MOST), NONE);
        due("THE PRINT stays", x.print(1), 1);
        due("THE YEAR stays", x.now(6), 0);
        due("the ministry has none", x.now(4), 0);
    }

    private static void truePrint(String text, int want) {
        PigRounds x = Due.landOf(text);
        due(text + " how many", x.prints(-1), want == NONE ? 0 : 1);
        due(text, x.prints(0), want);
        due(text + " not so many", x.prints(1), NONE);
    }

    private static void truePrints() {
        sentence(18, "all x (0 to 99) so that with THE PRINT x the next PRICE is x");
        truePrint("market 9 1 0;start 1 1 1;kind last 1 9 0 0 0;", 0);
        truePrint("market 9 1 0;start 1 1 1;kind last 1 8 0 0 0;", 1);
        truePrint("market 99 1 0;start 1 1 1;", 99);
        truePrint("market 98 1 0;start 1 1 1;kind told 1 0 0 0 0;", 98);
        truePrint("market 90 10 0;start 1 1 1;kind told 10 0 10 0 0;", 45);
        truePrint("market 91 10 0;start 1 1 1;kind told 10 0 10 0 0;", NONE);
        // 99 less 2 x by 20 is x at 90; at 99 it would be 90.
        truePrint("market 99 20 0;start 1 1 1;kind told 1 0 20 0 0;", 90);
        // Those who are OUT hear no print: from YEAR 2 on nobody brings any.
        PigRounds x = Due.landOf("market 90 10 0;start 0 1 1;kind told 10 0 10 99 0;");
        due("heard", x.prints(0), 45);
        x.years(1);
        due("not heard", x.prints(0), 90);
    }

    // ---- CALM

    private static void calmNumbers() {
        sentence(19, "CALM by n YEARS (1 to 20). BAD: n, s not 0 to 99; STATE: no LAND");
        PigRounds x = new PigRounds();
        int[][] bad = {{0, 0}, {21, 0}, {-1, 0}, {LEAST, 0}, {MOST, 0}, {1, -1}, {1, 100}, {1, LEAST}, {1, MOST}, {0, 100}};
        int[][] good = {{1, 0}, {1, 99}, {20, 0}, {20, 99}};
        for (int[] it : bad) {
            due(it[0] + " " + it[1] + ", ahead of STATE", x.calm(it[0], it[1]), BAD);
        }
        for (int[] it : good) {
            due(it[0] + " " + it[1] + " without a LAND", x.calm(it[0], it[1]), STATE);
        }
        Due.read(x, "market 50 2 1;start 10 20 30;");
        for (int[] it : bad) {
            due(it[0] + " " + it[1], x.calm(it[0], it[1]), BAD);
        }
        for (int[] it : good) {
            due(it[0] + " " + it[1], x.calm(it[0], it[1]), 100500);
        }
    }

    private static void calm(String text, int n, int s, int want) {
        PigRounds x = Due.landOf(text);
        due(text + " by " + n + ", at most " + s + " apart", x.calm(n, s), want);
        x.ministry(33, 44, 55);
        due("whatever is ordered now", x.calm(n, s), want);
    }

    private static void calmApart() {
        sentence(19, "the greatest PRICE of these YEARS is at most s above the least; NONE");
        // 35 pigs: 63. 63 and 33 by 2: 79 pigs: 41 is below 45 alone; 30 bought: 56. 20 bought: 51. None: 41.
        String text = "market 80 2 0;start 30 20 30;kind trend 5 1 0 10 0 999;";
        calm(text, 2, 0, NONE);
        calm(text, 2, 6, NONE);
        calm(text, 2, 7, 305045);
        calm(text, 2, 11, 305045);
        calm(text, 2, 12, 205045);
        // 10 bought: 46, for less; none: 41, for nothing.
        calm(text, 2, 16, 205045);
        calm(text, 2, 17, 105045);
        calm(text, 2, 21, 105045);
        calm(text, 2, 22, 100500);
        calm(text, 2, 99, 100500);
        // One YEAR is never apart from itself; nor are those PRICES that were ahead.
        calm(text, 1, 0, 100500);
        // 99, then 0, however many are bought, for nothing.
        String far = "market 99 1 0;start 0 0 0;kind last 2 0 20 0 999;";
        calm(far, 2, 98, NONE);
        calm(far, 2, 99, 100500);
        // The YEAR behind that they are sold: 30 at 69 is more than 20 at 79, and 10 at 89.
        calm(far, 20, 98, NONE);
        calm(far, 20, 99, 301005);
    }

    private static void calmWhatIsTried() {
        sentence(19, "of all LOW 0, 5, .., 45, HIGH LOW and 5, LOW and 10, .., 50, LOT 10, 20, 30");
        // 65, then 48: a LOW of 50 would buy 30, and it were 63.
        calm("market 80 2 0;start 30 0 60;kind last 1 0 10 0 999;", 2, 2, NONE);
        calm("market 80 2 0;start 30 0 60;kind last 1 0 10 0 999;", 2, 17, 100500);
        // 40, or, 30 bought, 55; then 54: above 50, so they are sold; a HIGH of 55 would leave it.
        calm("market 60 2 0;start 10 30 30;kind contrary 1 5 10 0 999;", 2, 1, NONE);
        // 28, then 3; 30 bought: 18. 40 bought would be 23.
        calm("market 40 2 0;start 10 5 10;kind trend 5 2 0 10 0 999;", 2, 5, NONE);
        calm("market 40 2 0;start 10 5 10;kind trend 5 2 0 10 0 999;", 2, 9, NONE);
        calm("market 40 2 0;start 10 5 10;kind trend 5 2 0 10 0 999;", 2, 10, 301005);
    }

    private static void calmCostsLeast() {
        sentence(19, "that which costs it least, of several the least as a number");
        // 60 less x, from 10 on. A LOT of 10 is bought at 20, and sold at 30, if HIGH is below 40.
        String text = "market 60 1 0;start 50 50 50;kind last 1 0 10 0 999;";
        calm(text, 2, 10, 102015);
        calm(text, 2, 99, 102015);
        // A LOT of 20 makes 30 of 10, and 30 stays.
        calm(text, 2, 0, 203015);
        calm(text, 2, 9, 203015);
        sentence(19, "the ministry having none and having paid nothing ahead");
        PigRounds x = Due.landOf(text);
        x.ministry(60, 60, 50);
        x.years(2);
        due("it has all", x.now(4), 100);
        int cost = x.now(5);
        due("and has none", x.calm(2, 99), 102015);
        due("tried on a copy", x.now(4), 100);
        due("tried on a copy", x.now(5), cost);
        due("tried on a copy", x.now(6), 2);
    }

    // ---- SHOWN

    private static void putRow(PigRounds x, int sheet, int from, int... row) {
        for (int i = 0; i < row.length; i++) {
            x.set(sheet, from + i, row[i]);
        }
    }

    private static void shownNumbers() {
        sentence(20, "n rows (1 to 15). BAD: SHEET, n; NULL; PLACE; then BAD: an ITEM");
        PigRounds x = new PigRounds();
        x.sheet(0, 2, 60);
        for (int sheet : new int[] {-1, 8, LEAST, MOST}) {
            due("SHEET " + sheet, x.shown(sheet, 0, 1), BAD);
            due("SHEET " + sheet + ", ahead of PLACE", x.shown(sheet, -1, 1), BAD);
        }
        for (int n : new int[] {-1, 0, 16, LEAST, MOST}) {
            due("n " + n, x.shown(0, 0, n), BAD);
            due("n " + n + ", ahead of NULL", x.shown(1, 0, n), BAD);
            due("n " + n + ", ahead of PLACE", x.shown(0, -1, n), BAD);
        }
        due("BAD leaves status", x.status(), 0);
        due("n 1", x.shown(0, 0, 1), 8191);
        due("n 15", x.shown(0, 0, 15), 8191);
        due("missing, ahead of PLACE", x.shown(1, -1, 1), NULL);
        due("status", x.status(), 1);
        x.set(0, 0, 100);
        due("an ITEM", x.shown(0, 0, 15), BAD);
        due("PLACE ahead of an ITEM", x.shown(0, 1, 15), PLACE);
        x.sheet(2, 2, 3);
        x.set(2, 0, 100);
        due("PLACE ahead of an ITEM", x.shown(2, 0, 1), PLACE);
        due("status", x.status(), 2);
    }

    private static void shownPlaces() {
        sentence(20, "PLACE (no such place of a SHEET)");
        PigRounds x = new PigRounds();
        for (int size = 0; size <= 60; size += size < 9 ? 1 : 17) {
            x.sheet(0, 1, size);
            for (int n = 1; n <= 15; n += 7) {
                int last = size - 4 * n;
                due("behind the last place of " + size, x.shown(0, Math.max(0, last + 1), n), PLACE);
                if (last >= 0) {
                    due("the last place of " + size, x.shown(0, last, n), 8191);
                    due("the first place of " + size, x.shown(0, 0, n), 8191);
                }
            }
        }
        x.sheet(0, 1, 60);
        for (int i : new int[] {-1, 57, 60, 61, LEAST, MOST, MOST - 3}) {
            due("i " + i, x.shown(0, i, 1), PLACE);
        }
        due("i 56", x.shown(0, 56, 1), 8191);
        due("i 1 of 15 rows", x.shown(0, 1, 15), PLACE);
    }

    private static void shownItems() {
        sentence(20, "PRICES a, b, c, a GUESS; 0 to 99");
        for (int lane = 0; lane < 3; lane++) {
            for (int item = 0; item < 12; item++) {
                PigRounds x = new PigRounds();
                x.sheet(0, lane, 20);
                for (int far : new int[] {-1, 100}) {
                    x.set(0, item + 4, far);
                    due("item " + item + " is " + far + " in lane " + lane, x.shown(0, 4, 3), BAD);
                    due("its row alone", x.shown(0, item / 4 * 4 + 4, 1), BAD);
                    due("ahead of it", x.shown(0, item, 1), 8191);
                    due("behind it", x.shown(0, item + 5, 1), 8191);
                    due("status", x.status(), 0);
                }
                for (int near : new int[] {99, 0}) {
                    x.set(0, item + 4, near);
                    dueTrue("item " + item + " is " + near, x.shown(0, 4, 3) >= 0);
                }
            }
        }
        PigRounds x = new PigRounds();
        x.sheet(0, 2, 4);
        for (int far : new int[] {LEAST, MOST, 256, 65536, -100}) {
            x.set(0, 3, far);
            due("a GUESS of " + far, x.shown(0, 0, 1), BAD);
        }
    }

    private static void shownWays() {
        sentence(20, "bits: 0 last, 1 mean 2, 2 mean 3, 3 to 11 trend 1 to 9, 12 contrary");
        PigRounds x = new PigRounds();
        x.sheet(0, 1, 4);
        // By 50, 30, 10 all ways guess something else.
        int[] guesses = {50, 40, 30, 52, 54, 56, 58, 60, 62, 64, 66, 68, 10};
        for (int bit = 0; bit < 13; bit++) {
            putRow(x, 0, 0, 50, 30, 10, guesses[bit]);
            due("a GUESS of " + guesses[bit], x.shown(0, 0, 1), 1 << bit);
        }
        for (int guess : new int[] {0, 51, 53, 70, 99}) {
            putRow(x, 0, 0, 50, 30, 10, guess);
            due("a GUESS of " + guess, x.shown(0, 0, 1), 0);
        }
        sentence(20, "all 0 at least, 99 at most; cut towards 0");
        putRow(x, 0, 0, 99, 0, 0, 99);
        due("last and all trends at 99", x.shown(0, 0, 1), 0b0111111111001);
        putRow(x, 0, 0, 0, 99, 99, 0);
        due("last and all trends at 0", x.shown(0, 0, 1), 0b0111111111001);
        putRow(x, 0, 0, 0, 99, 99, 99);
        due("contrary at 99", x.shown(0, 0, 1), 1 << 12);
        putRow(x, 0, 0, 99, 0, 0, 0);
        due("contrary at 0", x.shown(0, 0, 1), 1 << 12);
        putRow(x, 0, 0, 50, 51, 50, 50);
        // contrary: twice 50 less 50.
        due("what is below 1 is cut", x.shown(0, 0, 1), 8191);
        putRow(x, 0, 0, 50, 52, 50, 49);
        // 2 times 5 .. 9 by 10 is 1.
        due("what is below 2 is 1", x.shown(0, 0, 1), 0b0111110000000);
    }

    private static void shownAllRows() {
        sentence(20, "ways by which all rows are so");
        PigRounds x = new PigRounds();
        x.sheet(0, 0, 60);
        for (int row = 0; row < 15; row++) {
            putRow(x, 0, 4 * row, 50, 30, 10, 60);
        }
        due("trend 5 in 15 rows", x.shown(0, 0, 15), 1 << 7);
        for (int row : new int[] {0, 7, 14}) {
            x.set(0, 4 * row + 3, 50);
            due("not in row " + row, x.shown(0, 0, 15), 0);
            due("that row alone", x.shown(0, 4 * row, 1), 1);
            x.set(0, 4 * row + 3, 60);
        }
        x.set(0, 59, 50);
        due("not of the rows", x.shown(0, 0, 14), 1 << 7);
        x.set(0, 59, 60);
        x.set(0, 3, 50);
        due("not of the rows", x.shown(0, 4, 14), 1 << 7);
    }
}
