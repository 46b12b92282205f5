/** Boundaries that Terms and promises 9 to 13 name: GUESSES, pigs, PRICES, COIN, THE PRINT and the ministry. */
public final class YearEdgesTest extends Edges {
    // One farmer brings 9 pigs a YEAR: the OPEN PRICE is 81.
    private static final String NINE_PIGS = "market 90 1 0;start 60 30 20;kind last 1 9 0 0 9;";

    public static void main(String[] args) {
        farmersNumbers();
        lastAndMean();
        trend();
        contrary();
        told();
        pigsOfAFarmer();
        wiseOnesMeetTheirPrice();
        wiseOnesComeNear();
        wiseOnesAmongOthers();
        prints();
        ministryNumbers();
        yearsNumbers();
        openPrice();
        ministryBelowLow();
        ministryAboveHigh();
        howManyItBuys();
        howManyItSells();
        whatItPays();
        coinBelowNone();
        outFromTheNextYearOn();
        feedAndRent();
        nowNumbers();
        upToTheLastCall();
        Due.end();
    }

    private static int guess(String prices, String way) {
        return Due.landOf("market 9 9 9;start " + prices + ";kind " + way + " 1 1 1 1 1;").farmers(0, 6);
    }

    private static void guesses(String way, String prices, int want) {
        due(way + " of " + prices, guess(prices, way), want);
    }

    private static void farmersNumbers() {
        sentence(9, "0 MANY .. 7 how many pigs a farmer would bring now. BAD");
        PigRounds x = Due.landOf("market 90 5 2;start 60 30 20;kind last 10 1 5 3 200;kind mean 2 9 2 7 4 100;");
        int[][] want = {{10, 1, 5, 3, 200, 0, 60, 31}, {9, 2, 7, 4, 100, 0, 45, 33}};
        for (int k = 0; k < 2; k++) {
            for (int what = 0; what < 8; what++) {
                due(k + " " + what, x.farmers(k, what), want[k][what]);
            }
            for (int what : new int[] {-1, 8, LEAST, MOST}) {
                due(k + " " + what, x.farmers(k, what), BAD);
            }
        }
        for (int k : new int[] {-1, 2, 5, LEAST, MOST}) {
            due(k + " 0", x.farmers(k, 0), BAD);
        }
        sentence(9, "whether it is OUT (1, 0)");
        PigRounds y = Due.landOf("market 9 1 0;start 1 1 1;kind last 1 0 0 1 0;kind last 1 0 0 0 0;");
        due("ahead", y.farmers(0, 5), 0);
        y.years(1);
        due("behind", y.farmers(0, 5), 1);
        due("the other", y.farmers(1, 5), 0);
    }

    private static void lastAndMean() {
        sentence(9, "last: a; mean k: the first k of a, b, c, added, by k");
        guesses("last", "0 99 99", 0);
        guesses("last", "99 0 0", 99);
        guesses("mean 1", "0 99 99", 0);
        guesses("mean 1", "99 0 0", 99);
        guesses("mean 2", "1 0 99", 0);
        guesses("mean 2", "1 1 99", 1);
        guesses("mean 2", "0 3 99", 1);
        guesses("mean 2", "99 98 0", 98);
        guesses("mean 2", "99 99 0", 99);
        guesses("mean 3", "0 0 2", 0);
        guesses("mean 3", "0 0 3", 1);
        guesses("mean 3", "0 5 0", 1);
        guesses("mean 3", "99 99 98", 98);
        guesses("mean 3", "99 99 99", 99);
    }

    private static void trend() {
        sentence(9, "trend t: a and (a less b) times t by 10; cut towards 0");
        guesses("trend 0", "50 99 0", 50);
        guesses("trend 0", "50 0 0", 50);
        guesses("trend 1", "50 41 0", 50);
        guesses("trend 1", "50 40 0", 51);
        guesses("trend 1", "50 59 0", 50);
        guesses("trend 1", "50 60 0", 49);
        guesses("trend 9", "50 49 0", 50);
        guesses("trend 9", "50 48 0", 51);
        guesses("trend 9", "50 51 0", 50);
        guesses("trend 9", "50 52 0", 49);
        guesses("trend 5", "50 53 99", 49);
        sentence(9, "all 0 at least, 99 at most: trend");
        guesses("trend 9", "89 79 0", 98);
        guesses("trend 9", "90 80 0", 99);
        guesses("trend 9", "91 81 0", 99);
        guesses("trend 9", "99 0 0", 99);
        guesses("trend 9", "10 20 0", 1);
        guesses("trend 9", "9 19 0", 0);
        guesses("trend 9", "8 18 0", 0);
        guesses("trend 9", "0 99 0", 0);
    }

    private static void contrary() {
        sentence(9, "contrary: twice ((a and b and c) by 3) less a");
        guesses("contrary", "30 30 30", 30);
        // 32 by 3 is 10, twice that is 20: cut ahead of doubling.
        guesses("contrary", "10 11 11", 10);
        guesses("contrary", "10 11 12", 12);
        sentence(9, "all 0 at least, 99 at most: contrary");
        guesses("contrary", "0 99 50", 98);
        guesses("contrary", "1 99 50", 99);
        guesses("contrary", "0 99 51", 99);
        guesses("contrary", "0 99 99", 99);
        guesses("contrary", "1 1 1", 1);
        guesses("contrary", "2 1 0", 0);
        guesses("contrary", "3 1 0", 0);
        guesses("contrary", "99 0 0", 0);
    }

    private static void told() {
        sentence(9, "told: THE PRINT");
        PigRounds x = Due.landOf("market 9 9 9;start 40 30 20;kind told 1 0 10 0 0;");
        due("the last PRICE at first", x.farmers(0, 6), 40);
        for (int p : new int[] {0, 1, 98, 99}) {
            x.print(p);
            due("print " + p, x.farmers(0, 6), p);
            due("pigs by " + p, x.farmers(0, 7), p);
        }
        x.years(1);
        due("THE PRINT stays", x.farmers(0, 6), 99);
    }

    private static void pigsOfAFarmer() {
        sentence(9, "A farmer who GUESSES g brings BASE and SLOPE times g by 10 pigs");
        pigs(0, 0, 99, 0);
        pigs(9, 0, 99, 9);
        pigs(0, 1, 9, 0);
        pigs(0, 1, 10, 1);
        pigs(0, 1, 19, 1);
        pigs(9, 1, 9, 9);
        pigs(5, 3, 3, 5);
        pigs(5, 3, 4, 6);
        pigs(0, 20, 99, 198);
        pigs(9, 20, 99, 207);
        pigs(9, 20, 0, 9);
    }

    private static void pigs(int base, int slope, int guess, int want) {
        PigRounds x = Due.landOf("market 9 9 9;start " + guess + " 0 0;kind last 1 " + base + " " + slope + " 0 0;");
        due(base + " and " + slope + " times " + guess + " by 10", x.farmers(0, 7), want);
    }

    private static void wise(String what, String market, String kinds, int want) {
        due(what, Due.landOf("market " + market + ";start 1 2 3;" + kinds).farmers(0, 6), want);
    }

    private static void wiseOnesMeetTheirPrice() {
        sentence(9, "wise: the least x (0 to 99) so that, if all wise ones GUESS x, the PRICE is x");
        wise("9 less 9 is 0 at 0", "9 1 0", "kind wise 1 9 0 0 0;", 0);
        wise("9 less 10 is 0, too", "9 1 0", "kind wise 5 2 0 0 0;", 0);
        wise("9 less 8 is 1", "9 1 0", "kind wise 1 8 0 0 0;", 1);
        wise("nobody brings any: 99", "99 1 0", "kind wise 1 0 0 0 0;", 99);
        wise("nobody brings any: 98", "98 1 0", "kind wise 1 0 0 0 0;", 98);
        wise("9 pigs by 20 are none: 99", "99 20 0", "kind wise 1 0 1 0 0;", 99);
        wise("90 less 10 x by 10", "90 10 0", "kind wise 10 0 10 0 0;", 45);
        wise("9 less 2 x", "9 1 0", "kind wise 1 0 20 0 0;", 3);
        wise("99 less 2 x by 20: 90", "99 20 0", "kind wise 1 0 20 0 0;", 90);
        wise("two KINDS: 90 less 2 x", "90 1 0", "kind wise 1 0 10 0 0;kind wise 1 0 10 0 0;", 30);
    }

    private static void wiseOnesComeNear() {
        sentence(9, "if there is none, the x that is least apart from its PRICE, of several the least");
        // 10 less 2 x: 3 is 1 apart from 4, 4 is 2 apart from 2.
        wise("the lower is nearer", "10 1 0", "kind wise 1 0 20 0 0;", 3);
        // 11 less 2 x: 3 is 2 apart from 5, 4 is 1 apart from 3.
        wise("the upper is nearer", "11 1 0", "kind wise 1 0 20 0 0;", 4);
        // 11 less x: 5 and 6 are 1 apart from 6 and 5.
        wise("as near", "11 1 0", "kind wise 1 0 10 0 0;", 5);
        // 1 less 2 x: 0 is 1 apart from 1, 1 is 1 apart from 0.
        wise("as near, at 0", "1 1 0", "kind wise 1 0 20 0 0;", 0);
        // 2 less 4 x: 0 is 2 apart from 2, 1 is 1 apart from 0.
        wise("nearer at 1", "2 1 0", "kind wise 2 0 20 0 0;", 1);
        // 99 less 80 x: 1 is 18 apart from 19, 2 is 2 apart from 0.
        wise("steep", "99 1 0", "kind wise 40 0 20 0 0;", 2);
    }

    private static void wiseOnesAmongOthers() {
        sentence(9, "wise: the PRICE (without the ministry)");
        PigRounds x = Due.landOf("market 90 10 0;start 20 2 3;kind wise 10 0 10 0 0;kind last 1 0 10 0 0;");
        // 90 less (20 and 10 x) by 10: at 44 it is 44.
        due("others bring 20", x.farmers(0, 6), 44);
        x.ministry(99, 99, 99);
        due("the ministry would buy 99", x.farmers(0, 6), 44);
        due("and does: 460 less 99 by 10", x.years(1), 54);
        due("pigs", x.now(3), 460);
        sentence(9, "wise: all farmers who are not OUT bring pigs");
        // 80 pigs at 5 less 20 each: those who bring them are OUT then, and 90 less x is x at 45.
        PigRounds y = Due.landOf("market 90 1 20;start 0 0 0;kind wise 1 0 10 0 900;kind last 10 8 0 99 0;");
        due("10 less x", y.farmers(0, 6), 5);
        y.years(1);
        due("the others are OUT", y.farmers(1, 5), 1);
        due("90 less x", y.farmers(0, 6), 45);
    }

    private static void prints() {
        sentence(10, "THE PRINT: what it was. BAD: not 0 to 99; STATE: no LAND");
        PigRounds x = new PigRounds();
        for (int p : new int[] {-1, 100, LEAST, MOST}) {
            due(p + ", ahead of STATE", x.print(p), BAD);
        }
        due("0 without a LAND", x.print(0), STATE);
        due("99 without a LAND", x.print(99), STATE);
        Due.read(x, "market 9 9 9;start 40 30 20;");
        due("0", x.print(0), 40);
        due("99", x.print(99), 0);
        for (int p : new int[] {-1, 100, LEAST, MOST}) {
            due("" + p, x.print(p), BAD);
        }
        due("what was refused is not printed", x.print(50), 99);
        x.years(1);
        due("a YEAR leaves it", x.print(50), 50);
    }

    private static void ministryNumbers() {
        sentence(11, "a LOW, a HIGH (0 to 99, HIGH no less), a LOT (1 to 99); LOT 0: off: 1. BAD; STATE: no LAND");
        int[][] good = {{0, 0, 1}, {0, 99, 1}, {99, 99, 99}, {5, 5, 1}, {5, 6, 1}, {0, 0, 0}, {5, 6, 0}, {99, 99, 0}};
        int[][] bad = {{-1, 0, 1}, {-1, -1, 1}, {0, 100, 1}, {100, 100, 1}, {100, 99, 1}, {5, 4, 1}, {0, -1, 1}, {99, 98, 1},
            {0, 0, 100}, {0, 0, -1}, {LEAST, 0, 1}, {0, MOST, 1}, {0, 0, MOST}, {0, 0, LEAST}, {MOST, MOST, 1},
            // LOW and HIGH are told ahead of LOT, and are not as told.
            {5, 4, 0}, {-1, 0, 0}, {0, 100, 0}};
        PigRounds none = new PigRounds();
        PigRounds x = Due.landOf(NINE_PIGS);
        for (int[] m : good) {
            due(m[0] + " " + m[1] + " " + m[2] + " without a LAND", none.ministry(m[0], m[1], m[2]), STATE);
            due(m[0] + " " + m[1] + " " + m[2], x.ministry(m[0], m[1], m[2]), 1);
        }
        for (int[] m : bad) {
            due(m[0] + " " + m[1] + " " + m[2] + ", ahead of STATE", none.ministry(m[0], m[1], m[2]), BAD);
            due(m[0] + " " + m[1] + " " + m[2], x.ministry(m[0], m[1], m[2]), BAD);
        }
        sentence(11, "LOT 0: off");
        x.ministry(99, 99, 4);
        due("on", x.years(1), 85);
        x.ministry(99, 99, 0);
        due("off", x.years(1), 81);
        due("it keeps what it has", x.now(4), 4);
        due("and what it cost", x.now(5), 4 * 85);
        x.ministry(0, 0, 0);
        due("off, and does not sell", x.years(1), 81);
        x.ministry(0, 0, 1);
        due("on again, it sells", x.years(1), 80);
    }

    private static void yearsNumbers() {
        sentence(12, "n YEARS (1 to 100). BAD; STATE: no LAND");
        PigRounds x = new PigRounds();
        for (int n : new int[] {0, 101, -1, LEAST, MOST}) {
            due(n + ", ahead of STATE", x.years(n), BAD);
        }
        due("1 without a LAND", x.years(1), STATE);
        due("100 without a LAND", x.years(100), STATE);
        // 99 less x: 10, 89, 10, ..
        Due.read(x, "market 99 1 0;start 10 1 2;kind last 1 0 10 0 999;");
        due("1", x.years(1), 89);
        due("THE YEAR", x.now(6), 1);
        due("2", x.years(2), 89);
        due("99", x.years(99), 10);
        due("100", x.years(100), 10);
        due("THE YEAR", x.now(6), 202);
        for (int n : new int[] {0, 101, -1}) {
            due("" + n, x.years(n), BAD);
        }
        due("refused ones are not lived", x.now(6), 202);
        due("PRICES b", x.now(1), 89);
        due("PRICES c", x.now(2), 10);
    }

    /** The PRICE of a YEAR in which two KINDS bring so many pigs. */
    private static int price(String market, int many, int base, int more) {
        return Due.landOf("market " + market + ";start 1 1 1;kind last " + many + " " + base + " 0 0 999;kind last 1 " + more
            + " 0 0 999;").years(1);
    }

    private static void openPrice() {
        sentence(12, "TOP less PIGS by DEPTH, 0 at least");
        due("9 pigs by 10", price("9 10 0", 1, 9, 0), 9);
        due("10 pigs by 10", price("9 10 0", 1, 9, 1), 8);
        due("19 pigs by 10", price("9 10 0", 2, 9, 1), 8);
        due("20 pigs by 10", price("9 10 0", 2, 9, 2), 7);
        due("89 pigs by 10", price("9 10 0", 10, 8, 9), 1);
        due("90 pigs by 10", price("9 10 0", 10, 9, 0), 0);
        due("99 pigs by 10", price("9 10 0", 10, 9, 9), 0);
        due("100 pigs by 10", price("9 10 0", 11, 9, 1), 0);
        due("360 pigs by 1", price("99 1 0", 40, 9, 0), 0);
        due("98 pigs by 1", price("99 1 0", 10, 9, 8), 1);
        due("no pigs", price("99 1 0", 1, 0, 0), 99);
        due("19 pigs by 20", price("1 20 0", 2, 5, 9), 1);
        due("20 pigs by 20", price("1 20 0", 2, 9, 2), 0);
    }

    private static void ministryBelowLow() {
        sentence(12, "if the OPEN PRICE is below LOW, it BUYS");
        PigRounds x = Due.landOf(NINE_PIGS);
        x.ministry(81, 99, 1);
        due("LOW 81", x.years(1), 81);
        due("it has none", x.now(4), 0);
        x.ministry(82, 99, 1);
        due("LOW 82", x.years(1), 82);
        due("it has one", x.now(4), 1);
        x.ministry(80, 99, 1);
        due("LOW 80", x.years(1), 81);
        PigRounds zero = Due.landOf("market 9 1 0;start 1 1 1;kind last 1 9 0 0 9;");
        zero.ministry(0, 99, 1);
        due("0 is not below 0", zero.years(1), 0);
        zero.ministry(1, 99, 1);
        due("0 is below 1", zero.years(1), 1);
    }

    private static void ministryAboveHigh() {
        sentence(12, "if it is above HIGH, it SELLS");
        PigRounds x = Due.landOf(NINE_PIGS);
        x.ministry(99, 99, 9);
        due("it buys all", x.years(1), 90);
        x.ministry(0, 81, 1);
        due("HIGH 81", x.years(1), 81);
        due("it has 9", x.now(4), 9);
        x.ministry(0, 80, 1);
        due("HIGH 80", x.years(1), 80);
        due("it has 8", x.now(4), 8);
        x.ministry(81, 81, 1);
        due("LOW and HIGH 81", x.years(1), 81);
        x.ministry(0, 82, 1);
        due("HIGH 82", x.years(1), 81);
        due("it has 8", x.now(4), 8);
        PigRounds most = Due.landOf("market 99 20 0;start 1 1 1;kind last 1 9 0 0 9;");
        most.years(1);
        most.ministry(99, 99, 9);
        due("99 is neither below nor above 99", most.years(1), 99);
        due("none bought", most.now(4), 0);
    }

    private static void howManyItBuys() {
        sentence(12, "it BUYS LOT pigs, or all there are");
        int[][] lots = {{1, 82, 1}, {8, 89, 8}, {9, 90, 9}, {10, 90, 9}, {99, 90, 9}};
        for (int[] lot : lots) {
            PigRounds x = Due.landOf(NINE_PIGS);
            x.ministry(99, 99, lot[0]);
            due("PRICE by LOT " + lot[0], x.years(1), lot[1]);
            due("it has, by LOT " + lot[0], x.now(4), lot[2]);
            due("cost by LOT " + lot[0], x.now(5), lot[1] * lot[2]);
            due("PIGS before the ministry", x.now(3), 9);
        }
        PigRounds none = Due.landOf("market 90 1 0;start 1 1 1;");
        none.ministry(99, 99, 99);
        due("no pigs", none.years(1), 90);
        due("it has none", none.now(4), 0);
        due("and paid nothing", none.now(5), 0);
    }

    private static void howManyItSells() {
        sentence(12, "it SELLS LOT, or all it has");
        int[][] lots = {{1, 80, 3}, {3, 78, 1}, {4, 77, 0}, {5, 77, 0}, {99, 77, 0}};
        for (int[] lot : lots) {
            PigRounds x = Due.landOf(NINE_PIGS);
            x.ministry(99, 99, 4);
            due("it buys 4", x.years(1), 85);
            x.ministry(0, 0, lot[0]);
            due("PRICE by LOT " + lot[0], x.years(1), lot[1]);
            due("it has, by LOT " + lot[0], x.now(4), lot[2]);
            due("cost by LOT " + lot[0], x.now(5), 4 * 85 - lot[1] * (4 - lot[2]));
            due("PIGS before the ministry", x.now(3), 9);
        }
        PigRounds none = Due.landOf(NINE_PIGS);
        none.ministry(0, 0, 99);
        due("it has none to sell", none.years(1), 81);
        due("none below 0", none.now(4), 0);
        due("and got nothing", none.now(5), 0);
    }

    private static void whatItPays() {
        sentence(12, "PRICE: TOP less PIGS by DEPTH, 0 at least; it pays, or gets, that for each");
        // 18 pigs: 5 less 18; with 10 of them gone 8 are still too many.
        PigRounds x = Due.landOf("market 5 1 0;start 1 1 1;kind last 2 9 0 0 9;");
        x.ministry(9, 9, 10);
        due("still 0", x.years(1), 0);
        due("it has", x.now(4), 10);
        due("for nothing", x.now(5), 0);
        x.ministry(9, 9, 14);
        due("1", x.years(1), 1);
        due("14 for 1 each", x.now(5), 14);
        due("COIN by that PRICE", x.farmers(0, 4), 9 + 9);
        // Nobody brings any any more: what it sells presses the PRICE to 0.
        PigRounds y = Due.landOf("market 5 1 0;start 1 1 1;kind last 1 9 0 99 0;");
        y.ministry(9, 9, 8);
        due("8 of 9", y.years(1), 4);
        y.ministry(0, 4, 5);
        due("5 of 8", y.years(1), 0);
        due("gets nothing", y.now(5), 32);
        due("3 of 3", y.years(1), 2);
        due("gets 6", y.now(5), 26);
        due("none left", y.years(1), 5);
        due("cost", y.now(5), 26);
    }

    private static void coinBelowNone() {
        sentence(12, "a KIND whose COIN is below 0 is OUT");
        int[][] coins = {{5, 6, 1, 0}, {5, 5, 0, 0}, {5, 4, -1, 1}, {99, 99, 0, 0}, {99, 98, -1, 1}, {0, 0, 0, 0}, {1, 0, -1, 1}};
        for (int[] c : coins) {
            PigRounds x = Due.landOf("market 9 1 0;start 1 1 1;kind last 1 0 0 " + c[0] + " " + c[1] + ";");
            x.years(1);
            due("COIN " + c[1] + " less RENT " + c[0], x.farmers(0, 4), c[2]);
            due("COIN " + c[2] + " is OUT", x.farmers(0, 5), c[3]);
            due("count of OUT", x.count(3), c[3]);
        }
    }

    private static void outFromTheNextYearOn() {
        sentence(12, "OUT from the next YEAR on");
        // 9 pigs at 1 each, feed 1; rent 5 of 9 COIN.
        PigRounds x = Due.landOf("market 10 1 1;start 1 1 1;kind last 1 9 0 5 9;kind last 1 0 0 0 0;");
        due("year 1", x.years(1), 1);
        due("4 left", x.farmers(0, 4), 4);
        due("year 2: they still bring 9", x.years(1), 1);
        due("pigs", x.now(3), 9);
        due("COIN", x.farmers(0, 4), -1);
        due("OUT", x.farmers(0, 5), 1);
        due("year 3: they bring none", x.years(1), 10);
        due("pigs", x.now(3), 0);
        due("no RENT any more", x.farmers(0, 4), -1);
        due("OUT for good", x.years(100), 10);
        due("COIN", x.farmers(0, 4), -1);
        due("the other is in", x.farmers(1, 5), 0);
        due("a COIN of 0 is not below 0", x.farmers(1, 4), 0);
    }

    private static void feedAndRent() {
        sentence(12, "COIN: more by PRICE less FEED for each pig, less by RENT");
        due("a PRICE below FEED", coin("market 10 1 20;start 1 1 1;kind last 1 9 0 0 999;"), 999 - 9 * 19);
        due("a PRICE of FEED", coin("market 10 1 1;start 1 1 1;kind last 1 9 0 0 999;"), 999);
        due("a PRICE above FEED", coin("market 10 1 0;start 1 1 1;kind last 1 9 0 0 999;"), 999 + 9);
        due("a PRICE of 0", coin("market 9 1 20;start 1 1 1;kind last 1 9 0 99 999;"), 999 - 9 * 20 - 99);
        due("each farmer's own", coin("market 99 20 0;start 1 1 1;kind last 40 9 0 99 0;"), 9 * 81 - 99);
        due("the least", coin("market 1 1 20;start 99 0 0;kind last 1 9 20 99 0;"), -207 * 20 - 99);
    }

    private static int coin(String text) {
        PigRounds x = Due.landOf(text);
        x.years(1);
        return x.farmers(0, 4);
    }

    private static void nowNumbers() {
        sentence(13, "0 to 2 PRICES, 3 PIGS (0 ahead of the first), .. 6 THE YEAR. BAD; STATE: no LAND");
        PigRounds x = new PigRounds();
        for (int what : new int[] {-1, 7, LEAST, MOST}) {
            due(what + ", ahead of STATE", x.now(what), BAD);
        }
        for (int what = 0; what < 7; what++) {
            due(what + " without a LAND", x.now(what), STATE);
        }
        Due.read(x, "market 90 10 8;start 60 30 20;kind last 10 2 5 50 999;");
        dueNow("ahead", x, 60, 30, 20, 0, 0, 0, 0);
        x.ministry(99, 99, 20);
        x.years(1);
        // 10 bring 2 and 30 each; 300 by 10 are left.
        dueNow("behind 1", x, 60, 60, 30, 320, 20, 1200, 1);
        x.years(1);
        dueNow("behind 2", x, 60, 60, 60, 320, 40, 2400, 2);
        for (int what : new int[] {-1, 7, LEAST, MOST}) {
            due("" + what, x.now(what), BAD);
        }
    }

    private static void dueNow(String when, PigRounds x, int... want) {
        for (int what = 0; what < want.length; what++) {
            due(when + ": " + what, x.now(what), want[what]);
        }
    }

    private static void upToTheLastCall() {
        sentence(12, "An object is used for at most 512 calls");
        PigRounds x = new PigRounds();
        // 53 bytes come by 7 calls, and one more reads them.
        due("calls 1 to 8", Due.read(x, "market 99 20 0;start 99 99 99;kind last 1 9 20 0 999;"), 1);
        due("call 9", x.ministry(99, 99, 1), 1);
        // 207 pigs at 89, 187 at 90, then 189 at 90 for good: one less, by 20, is as many.
        for (int call = 10; call <= 509; call++) {
            due("call " + call, x.years(100), 90);
        }
        due("call 510: THE YEAR", x.now(6), 50000);
        due("call 511: COIN", x.farmers(0, 4), 999 + 207 * 89 + 187 * 90 + 49998L * 189 * 90);
        due("call 512: what the ministry paid", x.now(5), 89 + 49999 * 90);
    }
}
