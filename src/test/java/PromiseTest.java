/** Each promise by worked examples: ordinary inputs, the edges that the document names, wrong inputs. */
public final class PromiseTest extends Edges {
    // A kind of each way; nobody brings pigs but by his base.
    private static final String ALL_WAYS = "market 90 10 2; start 60 30 20;\n"
        + "kind last 3 1 0 0 9; kind mean 2 4 1 0 0 9; kind trend 5 5 1 0 0 9; kind contrary 6 1 0 0 9; kind told 7 1 0 0 9;";
    private static final String WISE = "market 90 10 2;start 60 30 20;kind wise 8 0 5 0 9;";

    public static void main(String[] args) {
        promise1();
        promise2();
        promise3();
        promise4();
        promise5();
        promise6();
        promise7();
        promise8();
        promise9();
        promise10();
        promise11();
        promise12();
        promise12Ministry();
        promise13();
        promise14();
        promise15();
        promise16();
        promise17();
        promise18();
        promise19();
        promise20();
        promise21();
        promise22();
        promise23();
        promise24();
        promise25();
        promise26();
        Due.end();
    }

    private static void promise1() {
        sentence(1, "by examples");
        PigRounds x = new PigRounds();
        due("new: dies", x.dies(), STATE);
        due("new: now", x.now(0), STATE);
        due("new: kind", x.kind(0), BAD);
        for (int what = 0; what < 5; what++) {
            due("new: count " + what, x.count(what), 0);
        }
        due("new: status", x.status(), 0);
        due("new: fault", x.fault(), 0);
        due("new: trace", x.trace(0), NONE);
        due("constants", PigRounds.NONE, NONE);
        due("constants", PigRounds.BAD, BAD);
        due("constants", PigRounds.STATE, STATE);
        due("constants", PigRounds.FULL, FULL);
    }

    private static void promise2() {
        sentence(2, "by examples");
        PigRounds x = new PigRounds();
        due("sheet of 0", x.sheet(0, 0, 0), 0);
        due("sheet of 60", x.sheet(7, 2, 60), 60);
        due("sheet of 61", x.sheet(7, 2, 61), BAD);
        due("sheet of MOST", x.sheet(7, 2, MOST), BAD);
        due("sheet 8", x.sheet(8, 0, 1), BAD);
        due("sheet -1", x.sheet(-1, 0, 1), BAD);
        due("lane 3", x.sheet(0, 3, 1), BAD);
        due("lane -1", x.sheet(0, -1, 1), BAD);
        due("size", x.sheet(0, 0, -1), SIZE);
        due("size LEAST", x.sheet(0, 0, LEAST), SIZE);
        due("BAD ahead of SIZE", x.sheet(8, 0, -1), BAD);
        due("found changes nothing", x.drop(0), 0);
        due("set", x.set(7, 59, 5), 5);
        due("in place", x.sheet(7, 1, 60), 60);
        due("0 at first", x.shown(7, 56, 1), 8191);
        due("sheets", x.count(0), 1);
    }

    private static void promise3() {
        sentence(3, "by examples");
        PigRounds x = new PigRounds();
        x.sheet(0, 0, 2);
        x.sheet(1, 1, 2);
        x.sheet(2, 2, 2);
        due("byte 127", x.set(0, 0, 127), 127);
        due("byte 128", x.set(0, 0, 128), -128);
        due("byte 256", x.set(0, 1, 256), 0);
        due("byte -129", x.set(0, 1, -129), 127);
        due("short 32768", x.set(1, 0, 32768), -32768);
        due("short 65536 + 5", x.set(1, 0, 65541), 5);
        due("int LEAST", x.set(2, 0, LEAST), LEAST);
        due("int MOST", x.set(2, 1, MOST), MOST);
        due("place 2", x.set(2, 2, 0), PLACE);
        due("place -1", x.set(2, -1, 0), PLACE);
        due("place MOST", x.set(2, MOST, 0), PLACE);
        due("place LEAST", x.set(2, LEAST, 0), PLACE);
        due("missing", x.set(3, 0, 0), NULL);
        due("NULL ahead of PLACE", x.set(3, -1, 0), NULL);
        due("sheet 8", x.set(8, 0, 0), BAD);
        due("sheet -1", x.set(-1, 0, 0), BAD);
    }

    private static void promise4() {
        sentence(4, "by examples");
        PigRounds x = new PigRounds();
        x.sheet(0, 1, 8);
        x.sheet(1, 1, 4);
        x.sheet(2, 2, 8);
        int[] row = {10, 20, 33, 21};
        for (int i = 0; i < 4; i++) {
            x.set(0, i, row[i]);
        }
        due("all", x.copy(0, 0, 1, 0, 4), 4);
        due("came", x.shown(1, 0, 1), 4);
        due("onto itself, forward", x.copy(0, 0, 0, 2, 4), 4);
        due("as they were: 10 20 10 20 33 21", x.shown(0, 0, 1), 0);
        due("as they were", x.shown(0, 2, 1), 4);
        due("onto itself, back", x.copy(0, 2, 0, 0, 4), 4);
        due("as they were", x.shown(0, 0, 1), 4);
        due("none, at the end", x.copy(0, 8, 1, 4, 0), 0);
        due("beyond a", x.copy(0, 5, 1, 0, 4), PLACE);
        due("beyond b", x.copy(0, 0, 1, 1, 4), PLACE);
        due("i -1", x.copy(0, -1, 1, 0, 1), PLACE);
        due("j -1", x.copy(0, 0, 1, -1, 1), PLACE);
        due("n -1", x.copy(0, 0, 1, 0, -1), PLACE);
        due("i wraps", x.copy(0, MOST, 1, 0, MOST), PLACE);
        due("j wraps", x.copy(0, 0, 1, MOST, 1), PLACE);
        due("n LEAST", x.copy(0, LEAST, 1, LEAST, LEAST), PLACE);
        due("lanes", x.copy(0, 0, 2, 0, 1), STORE);
        due("STORE ahead of PLACE", x.copy(0, -1, 2, 0, 1), STORE);
        due("STORE of none", x.copy(0, 0, 2, 0, 0), STORE);
        due("a missing", x.copy(3, 0, 1, 0, 1), NULL);
        due("b missing", x.copy(0, 0, 3, 0, 1), NULL);
        due("a 8", x.copy(8, 0, 0, 0, 0), BAD);
        due("b -1", x.copy(0, 0, -1, 0, 0), BAD);
        due("BAD ahead of NULL", x.copy(3, 0, 8, 0, 0), BAD);
    }

    private static void promise5() {
        sentence(5, "by examples");
        PigRounds x = new PigRounds();
        x.sheet(4, 0, 17);
        due("drop", x.drop(4), 17);
        due("missing now", x.drop(4), NULL);
        due("set", x.set(4, 0, 0), NULL);
        due("sheet 8", x.drop(8), BAD);
        due("sheet -1", x.drop(-1), BAD);
        due("sheets", x.count(0), 0);
    }

    private static void promise6() {
        sentence(6, "by examples");
        PigRounds x = new PigRounds();
        due("n 0", x.feed(0, 0), BAD);
        due("n 9", x.feed(0, 9), BAD);
        due("n LEAST", x.feed(0, LEAST), BAD);
        for (int i = 1; i < 50; i++) {
            due("feed 8", x.feed(0x2020202020202020L, 8), 8 * i);
        }
        due("feed 7", x.feed(0x20202020202020L, 7), 399);
        due("full", x.feed(0, 2), FULL);
        due("none came", x.count(4), 399);
        due("BAD ahead of FULL", x.feed(0, 9), BAD);
        due("the last one", x.feed(';', 1), 400);
        due("full", x.feed(0, 1), FULL);
        due("the sign at its place", x.land(), -1000100 - 399);
        due("empty then", x.count(4), 0);
        // Of a long the lowest bytes alone, the highest of them first.
        Due.feedText(x, "market 50 2 1;start 1");
        due("lowest three", x.feed(0x7f7f7f7f7f203220L, 3), 24);
        due("negative", x.feed(0xffffffffffffff33L, 1), 25);
        x.feed(';', 1);
        due("land", x.land(), 0);
        due("c", x.now(2), 3);
    }

    private static void promise7() {
        sentence(7, "by examples");
        PigRounds x = new PigRounds();
        fault(x, "", 0, 1);
        fault(x, " \n ", 3, 1);
        fault(x, "market", 6, 1);
        fault(x, "market ", 7, 1);
        fault(x, "markets 1 1 1;", 0, 1);
        fault(x, "Market 1 1 1;", 0, 1);
        fault(x, "market 0 1 1;", 7, 2);
        fault(x, "market 100 1 1;", 7, 2);
        fault(x, "market 1000 1 1;", 7, 1);
        fault(x, "market 0001 1 1;", 7, 1);
        fault(x, "market 1 0 1;", 9, 2);
        fault(x, "market 1 21 1;", 9, 2);
        fault(x, "market 1 1 21;", 11, 2);
        fault(x, "market 1 1 -1;", 11, 1);
        fault(x, "market 1 1;", 10, 1);
        fault(x, "market 1 1 1 1;", 13, 1);
        fault(x, "market 1\t1 1;", 8, 1);
        fault(x, "market 1 1 1;kind last 1 1 1 1 1;", 13, 1);
        fault(x, "market 1 1 1;start 100 1 1;", 19, 2);
        fault(x, "market 1 1 1;start 1 100 1;", 21, 2);
        fault(x, "market 1 1 1;start 1 1 100;", 23, 2);
        fault(x, "market 1 1 1;start 1 1 1", 24, 1);
        String head = "market 1 1 1;start 1 1 1;";
        fault(x, head + ";", 25, 1);
        fault(x, head + "start", 25, 1);
        fault(x, head + (char) 200, 25, 1);
        fault(x, head + "kind guess 1 1 1 1 1;", 30, 1);
        fault(x, head + "kind 1 1 1 1 1;", 30, 1);
        fault(x, head + "kind mean 0 1 1 1 1 1;", 35, 2);
        fault(x, head + "kind mean 4 1 1 1 1 1;", 35, 2);
        fault(x, head + "kind mean ;", 35, 1);
        fault(x, head + "kind trend 10 1 1 1 1 1;", 36, 2);
        fault(x, head + "kind last 0 1 1 1 1;", 35, 2);
        fault(x, head + "kind last 41 1 1 1 1;", 35, 2);
        fault(x, head + "kind last 1 10 1 1 1;", 37, 2);
        fault(x, head + "kind last 1 1 21 1 1;", 39, 2);
        fault(x, head + "kind last 1 1 1 100 1;", 41, 2);
        fault(x, head + "kind last 1 1 1 1 1000;", 43, 1);
        fault(x, head + "kind last 1 1 1 1 1 1;", 45, 1);
        String one = "kind wise 1 1 1 1 1;";
        fault(x, head + one + one + one + one + one + "kind", 125, 3);
        fault(x, head + one + one + one + one + one + "kin", 125, 1);
        due("no land came", x.dies(), STATE);
        due("five", Due.read(x, head + one + one + one + one + one + "\n"), 5);
        due("no gaps needed", Due.read(x, "market99 20 20;start99 99 99;kind trend0 40 9 20 99 999;"), 1);
        due("many gaps", Due.read(x, "\n market 001\n1 000 ;\n\nstart 0 0 0 ; kind\nmean 1 1 0 0 0 0 ; "), 1);
        due("top 1", x.years(1), 1);
        fault(x, "market 1 1 1;start 2 2", 22, 1);
        due("the land stays", x.now(6), 1);
        due("the land stays", x.kind(0), 2);
        due("another", Due.read(x, "market 90 1 0;start 1 1 1;kind last 1 9 0 0 0;kind last 1 9 0 99 0;"), 2);
        x.ministry(99, 99, 7);
        x.years(2);
        due("it has", x.now(4), 14);
        due("out", x.count(3), 0);
        due("in its place", Due.read(x, "market 90 1 0;start 1 1 1;kind last 1 9 0 0 0;"), 1);
        for (int what = 3; what < 7; what++) {
            due("anew " + what, x.now(what), 0);
        }
        due("the ministry is off", x.years(1), 81);
        due("the ministry has none", x.now(4), 0);
        due("in its place", Due.read(x, "market 50 2 1;start 11 12 13;"), 0);
        due("year", x.now(6), 0);
        due("print", x.print(5), 11);
        due("kinds", x.count(1), 0);
    }

    private static void fault(PigRounds x, String text, int place, int number) {
        due("fault in '" + text + "'", Due.read(x, text), -1000100 - place);
        due("its number in '" + text + "'", x.fault(), number);
        due("the tape behind '" + text + "'", x.count(4), 0);
    }

    private static void promise8() {
        sentence(8, "by examples");
        PigRounds x = new PigRounds();
        due("none yet", x.fault(), 0);
        fault(x, "market 0", 7, 2);
        Due.read(x, "market 1 1 1;start 1 1 1;");
        due("the latest stays", x.fault(), 2);
        fault(x, "mark", 0, 1);
    }

    private static void promise9() {
        sentence(9, "by examples");
        PigRounds x = Due.landOf("market 90 5 2;start 60 30 20;"
            + "kind last 10 1 5 3 200;kind mean 2 9 2 7 4 100;kind trend 7 8 3 0 5 50;"
            + "kind contrary 7 0 20 99 999;kind told 1 9 9 0 0;");
        int[][] want = {{10, 1, 5, 3, 200, 0, 60, 31}, {9, 2, 7, 4, 100, 0, 45, 33}, {8, 3, 0, 5, 50, 0, 81, 3},
            {7, 0, 20, 99, 999, 0, 12, 24}, {1, 9, 9, 0, 0, 0, 60, 63}};
        for (int k = 0; k < 5; k++) {
            for (int what = 0; what < 8; what++) {
                due("farmers " + k + " " + what, x.farmers(k, what), want[k][what]);
            }
        }
        due("what 8", x.farmers(0, 8), BAD);
        due("what -1", x.farmers(0, -1), BAD);
        due("kind 5", x.farmers(5, 0), BAD);
        due("kind -1", x.farmers(-1, 0), BAD);
        due("no land", new PigRounds().farmers(0, 0), BAD);
        guesses();
        wiseGuesses();
    }

    private static void guesses() {
        // 99 at most, 0 at least; all that is divided is cut towards 0.
        due("trend above", guess("99 0 0", "trend 9"), 99);
        due("trend below", guess("10 99 0", "trend 9"), 0);
        due("trend cut", guess("50 51 0", "trend 9"), 50);
        due("trend cut", guess("50 53 0", "trend 5"), 49);
        due("mean 1", guess("7 99 99", "mean 1"), 7);
        due("mean 3", guess("1 1 99", "mean 3"), 33);
        due("mean 3 cut", guess("1 1 3", "mean 3"), 1);
        due("contrary", guess("30 31 31", "contrary"), 30);
        due("contrary below", guess("99 0 0", "contrary"), 0);
        due("contrary above", guess("0 99 99", "contrary"), 99);
    }

    private static int guess(String prices, String way) {
        return Due.landOf("market 9 9 9;start " + prices + ";kind " + way + " 1 1 1 1 1;").farmers(0, 6);
    }

    private static void wiseGuesses() {
        // 10 farmers bring x pigs each: 90 less 10 x by 10 is x at 45.
        due("wise", Due.landOf("market 90 10 0;start 1 2 3;kind wise 10 0 10 0 0;").farmers(0, 6), 45);
        // 1 farmer brings 20 x by 10: 9 less 2 x is x at 3.
        due("wise, steep", Due.landOf("market 9 1 0;start 1 2 3;kind wise 1 0 20 0 0;").farmers(0, 6), 3);
        // 10 less 2 x: 4 is 1 below at 3, 2 is 2 above at 4: 3 is least apart.
        due("wise, none", Due.landOf("market 10 1 0;start 1 2 3;kind wise 1 0 20 0 0;").farmers(0, 6), 3);
        // 10 less x: 5 is 5. 11 less x: at 5 it is 6, at 6 it is 5: of two the least.
        due("wise, two", Due.landOf("market 11 1 0;start 1 2 3;kind wise 1 0 10 0 0;").farmers(0, 6), 5);
        due("wise, all too many", Due.landOf("market 9 1 0;start 1 2 3;kind wise 1 9 0 0 0;").farmers(0, 6), 0);
        due("wise, nobody", Due.landOf("market 99 1 0;start 1 2 3;kind wise 1 0 0 0 0;").farmers(0, 6), 99);
        // 20 pigs of the others, and 10 a farmer of the told.
        due("wise among others", Due.landOf("market 90 10 0;start 20 2 3;kind last 1 0 10 0 0;kind told 10 0 10 0 0;"
            + "kind wise 10 0 10 0 0;").farmers(2, 6), 34);
        // 99 less 9 less x is x at 45: 3 pigs bring 25 each, rent is 99: the first KIND is OUT then.
        PigRounds x = Due.landOf("market 99 1 20;start 1 1 1;kind wise 3 3 0 99 0;kind wise 1 0 10 0 999;");
        due("both in", x.farmers(0, 6), 45);
        x.years(1);
        due("out", x.farmers(0, 5), 1);
        due("an OUT one guesses as the others do", x.farmers(0, 6), 49);
        due("and would bring", x.farmers(0, 7), 3);
    }

    private static void promise10() {
        sentence(10, "by examples");
        PigRounds x = new PigRounds();
        due("-1", x.print(-1), BAD);
        due("100", x.print(100), BAD);
        due("no land", x.print(0), STATE);
        Due.read(x, "market 90 10 0;start 60 30 20;kind told 1 0 10 0 0;");
        due("the last price", x.print(99), 60);
        due("guess", x.farmers(0, 6), 99);
        due("100", x.print(100), BAD);
        due("not changed", x.print(0), 99);
        x.years(3);
        due("it stays", x.print(7), 0);
    }

    private static void promise11() {
        sentence(11, "by examples");
        PigRounds x = new PigRounds();
        due("no land", x.ministry(0, 0, 0), STATE);
        due("low -1", x.ministry(-1, 0, 1), BAD);
        due("high 100", x.ministry(0, 100, 1), BAD);
        due("high less", x.ministry(5, 4, 1), BAD);
        due("lot 100", x.ministry(0, 0, 100), BAD);
        due("lot -1", x.ministry(0, 0, -1), BAD);
        Due.read(x, "market 90 1 0;start 60 30 20;kind last 1 9 0 0 9;");
        due("on", x.ministry(99, 99, 5), 1);
        due("bought", x.years(1), 86);
        due("off", x.ministry(0, 0, 0), 1);
        due("open", x.years(1), 81);
        due("it keeps what it has", x.now(4), 5);
        due("sells", x.ministry(0, 0, 99), 1);
        due("sold", x.years(1), 76);
        due("none left", x.now(4), 0);
        due("cost", x.now(5), 5 * 86 - 5 * 76);
    }

    private static void promise12() {
        sentence(12, "by examples");
        PigRounds x = new PigRounds();
        due("0", x.years(0), BAD);
        due("101", x.years(101), BAD);
        due("LEAST", x.years(LEAST), BAD);
        due("no land", x.years(1), STATE);
        // 10 farmers: 2 and 5 times 60 by 10 is 32 pigs: 320 by 10: 90 less 32 is 58.
        Due.read(x, "market 90 10 8;start 60 30 20;kind last 10 2 5 50 999;");
        due("year 1", x.years(1), 58);
        due("coin", x.farmers(0, 4), 999 + 32 * 50 - 50);
        // 2 and 29: 31 pigs.
        due("year 2", x.years(1), 59);
        due("coin", x.farmers(0, 4), 2549 + 31 * 51 - 50);
        due("hundred", x.years(100), 59);
        due("pigs cut", cutPrice(), 9);
        due("top less many", Due.landOf("market 9 1 0;start 1 1 1;kind last 40 9 0 0 0;").years(1), 0);
        rentDrivesOut();
    }

    private static int cutPrice() {
        // 9 pigs by 10 are none.
        return Due.landOf("market 9 10 0;start 1 1 1;kind last 1 9 0 0 0;").years(1);
    }

    private static void rentDrivesOut() {
        // Price 10 less 9 is 1, feed 1: a pig brings nothing; rent 5 of 10 coins.
        PigRounds x = Due.landOf("market 10 1 1;start 1 1 1;kind last 1 9 0 5 10;");
        due("still in", x.years(2), 1);
        due("coin 0 is not below", x.farmers(0, 4), 0);
        due("not out", x.farmers(0, 5), 0);
        due("the third", x.years(1), 1);
        due("coin", x.farmers(0, 4), -5);
        due("out", x.farmers(0, 5), 1);
        due("they bring none", x.years(1), 10);
        due("and pay no rent", x.farmers(0, 4), -5);
        due("no pigs", x.now(3), 0);
        due("counted", x.count(3), 1);
    }

    private static void promise12Ministry() {
        sentence(12, "by examples");
        // 9 pigs a YEAR: open at 81.
        PigRounds x = Due.landOf("market 90 1 0;start 60 30 20;kind last 1 9 0 0 9;");
        x.ministry(81, 81, 4);
        due("neither below nor above", x.years(1), 81);
        x.ministry(82, 90, 50);
        due("all there are", x.years(1), 90);
        due("it has", x.now(4), 9);
        due("pigs before the ministry", x.now(3), 9);
        x.ministry(10, 80, 4);
        due("sells a lot", x.years(1), 77);
        due("it has", x.now(4), 5);
        due("sells", x.years(1), 77);
        due("sells what is left", x.years(1), 80);
        due("none left", x.years(1), 81);
        due("cost", x.now(5), 9 * 90 - 8 * 77 - 80);
        x.ministry(99, 99, 1);
        due("a lot of 1", x.years(1), 82);
        x.ministry(0, 80, 1);
        due("a lot of 1", x.years(1), 80);
        due("coin by the PRICE", x.farmers(0, 4), 9 + 9 * (81 + 90 + 77 + 77 + 80 + 81 + 82 + 80));
    }

    private static void promise13() {
        sentence(13, "by examples");
        PigRounds x = new PigRounds();
        due("-1", x.now(-1), BAD);
        due("7", x.now(7), BAD);
        due("no land", x.now(6), STATE);
        Due.read(x, "market 90 10 8;start 60 30 20;kind last 10 2 5 50 999;");
        int[] ahead = {60, 30, 20, 0, 0, 0, 0};
        for (int what = 0; what < 7; what++) {
            due("ahead " + what, x.now(what), ahead[what]);
        }
        x.ministry(99, 99, 20);
        x.years(1);
        int[] behind = {60, 60, 30, 320, 20, 1200, 1};
        for (int what = 0; what < 7; what++) {
            due("behind " + what, x.now(what), behind[what]);
        }
    }

    private static void promise14() {
        sentence(14, "by examples");
        due("no land", new PigRounds().dies(), STATE);
        due("nobody", dies("market 9 1 0;start 1 1 1;"), 0);
        due("last, below", dies("market 9 10 0;start 1 1 1;kind last 9 0 11 0 0;"), 0);
        due("last, edge", dies("market 9 10 0;start 1 1 1;kind last 10 0 10 0 0;"), 1);
        due("last, above", dies("market 9 10 0;start 1 1 1;kind last 11 0 10 0 0;"), 2);
        // mean 3 of PULL p: 10 p three times; 10 p against D: it dies up to 10 p = D.
        due("mean 3, dies", dies("market 9 10 0;start 1 1 1;kind mean 3 29 0 10 0 0;"), 0);
        due("mean 3, edge", dies("market 9 10 0;start 1 1 1;kind mean 3 30 0 10 0 0;"), 1);
        due("mean 3, grows", dies("market 9 10 0;start 1 1 1;kind mean 3 31 0 10 0 0;"), 2);
        // mean 2: 15 p, 15 p: second: 15 p below D and 15 p; third: 15 p below D.
        due("mean 2, dies", dies("market 9 10 0;start 1 1 1;kind mean 2 19 0 10 0 0;"), 0);
        due("mean 2, edge", dies("market 9 10 0;start 1 1 1;kind mean 2 20 0 10 0 0;"), 1);
        due("mean 2, grows", dies("market 9 10 0;start 1 1 1;kind mean 2 21 0 10 0 0;"), 2);
        // trend 5: 45 p, -15 p: 45 p below D less 15 p: 60 p below 3000 at p = 50.
        due("trend, dies", dies("market 9 10 0;start 1 1 1;kind trend 5 7 0 7 0 0;"), 0);
        due("trend, edge", dies("market 9 10 0;start 1 1 1;kind trend 5 5 0 10 0 0;"), 1);
        due("trend, grows", dies("market 9 10 0;start 1 1 1;kind trend 5 17 0 3 0 0;"), 2);
        // contrary of p: -10 p, 20 p, 20 p; with q = p by D: |20 q + 200 q q| below 1 less 400 q q:
        // 600 q q and 20 q below 1: q below 0.0274..: D = 6000: p up to 164.
        due("contrary, dies", dies("market 9 20 0;start 1 1 1;kind contrary 16 0 10 0 0;"), 0);
        due("contrary, grows", dies("market 9 20 0;start 1 1 1;kind contrary 17 0 10 0 0;"), 2);
        // wise ones calm: D is 3000 and 30 times 10.
        due("wise", dies("market 9 10 0;start 1 1 1;kind last 10 0 10 0 0;kind wise 1 0 10 0 0;"), 0);
        due("told", dies("market 9 10 0;start 1 1 1;kind last 10 0 10 0 0;kind told 1 0 10 0 0;"), 1);
        // Great numbers: n1 times D is beyond an int.
        String forty = "kind mean 2 40 0 20 0 0;";
        due("great", dies("market 9 20 0;start 1 1 1;" + forty + forty + forty + forty + "kind wise 40 0 20 0 0;"), 2);
        // 4 times 800 times 15 is 48000; D is 300 times 20 and 30 times 800: 30000.
        PigRounds x = Due.landOf("market 9 10 0;start 1 1 1;kind last 11 9 10 9 0;");
        due("grows", x.dies(), 2);
        x.years(1);
        due("all OUT: nobody pulls", x.dies(), 0);
    }

    private static int dies(String text) {
        return Due.landOf(text).dies();
    }

    private static void promise15() {
        sentence(15, "by examples");
        due("no land", new PigRounds().steep(), STATE);
        due("nobody", Due.landOf("market 9 20 0;start 1 1 1;").steep(), 1);
        due("just above the edge", Due.landOf("market 9 1 0;start 1 1 1;kind last 10 0 10 0 0;").steep(), 11);
        due("20", Due.landOf("market 9 1 0;start 1 1 1;kind last 19 0 10 0 0;").steep(), 20);
        PigRounds x = Due.landOf("market 9 1 0;start 1 1 1;kind last 20 0 10 0 0;");
        due("none", x.steep(), NONE);
        due("tried on a copy", x.dies(), 2);
    }

    private static void promise16() {
        sentence(16, "by examples");
        PigRounds x = new PigRounds();
        due("2", x.round(2), BAD);
        due("-1", x.round(-1), BAD);
        due("no land", x.round(0), STATE);
        Due.read(x, "market 50 2 1;start 50 50 50;");
        due("p", x.round(0), 1);
        due("t", x.round(1), 1);
        Due.read(x, "market 50 2 1;start 50 50 49;");
        due("p", x.round(0), 1);
        due("t: 50 50 50 is met first behind 1 YEAR", x.round(1), 2);
        // 99 less x, from 10: 89, 10, 89: (10 1 2) (89 10 1) (10 89 10) (89 10 89) (10 89 10).
        Due.read(x, "market 99 10 0;start 10 1 2;kind last 10 0 10 0 999;");
        due("p 2", x.round(0), 2);
        due("t 4", x.round(1), 4);
        due("tried on a copy", x.now(6), 0);
        due("and so the coin", x.farmers(0, 4), 999);
        // The PRICES are the same all the time, but somebody who brings nothing goes OUT in the first YEAR.
        Due.read(x, "market 50 2 1;start 50 50 50;kind last 1 0 0 9 0;");
        due("p", x.round(0), 1);
        due("t: OUT behind the first", x.round(1), 2);
    }

    private static void promise17() {
        sentence(17, "by examples");
        PigRounds x = new PigRounds();
        due("no land", x.bears(1, 1), BAD);
        // Both always bring the same: gains are equal, 40 are borne.
        Due.read(x, "market 90 10 1;start 20 20 20;kind last 1 1 5 0 10;kind last 3 1 5 0 10;");
        due("alike", x.bears(1, 5), 40);
        due("kind 0", x.bears(0, 5), BAD);
        due("kind 2", x.bears(2, 5), BAD);
        due("kind -1", x.bears(-1, 5), BAD);
        due("n 0", x.bears(1, 0), BAD);
        due("n 31", x.bears(1, 31), BAD);
        due("n 30", x.bears(1, 30), 40);
        // A coin more of rent.
        Due.read(x, "market 90 10 1;start 20 20 20;kind last 1 1 5 0 10;kind last 3 1 5 1 10;");
        due("none", x.bears(1, 1), 0);
        // 1 pig more a farmer; the price is 50 less 10 less m times 2, feed 20: it pays up to m = 10.
        Due.read(x, "market 50 1 20;start 0 0 0;kind last 10 1 0 0 900;kind last 40 2 0 0 900;");
        due("ten", x.bears(1, 1), 10);
        due("tried on a copy", x.farmers(1, 0), 40);
        due("tried on a copy", x.now(6), 0);
    }

    private static void promise18() {
        sentence(18, "by examples");
        PigRounds x = new PigRounds();
        due("-2", x.prints(-2), BAD);
        due("no land", x.prints(-1), STATE);
        Due.read(x, "market 90 10 0;start 1 1 1;kind told 10 0 10 0 0;");
        due("how many", x.prints(-1), 1);
        due("90 less x is x", x.prints(0), 45);
        due("not so many", x.prints(1), NONE);
        due("not so many", x.prints(MOST), NONE);
        due("the print stays", x.print(3), 1);
        Due.read(x, "market 91 10 0;start 1 1 1;kind told 10 0 10 0 0;");
        due("none", x.prints(-1), 0);
        due("none", x.prints(0), NONE);
        // Without pigs 91; the ministry buys all.
        x.ministry(99, 99, 99);
        // 91 less (10 x less 99) by 10: x = 50: 91 less 40 (401 by 10) is 51; x = 51: 91 less 41 is 50.
        due("with the ministry", x.prints(-1), 0);
        Due.read(x, "market 50 1 0;start 1 1 1;kind last 9 9 0 0 0;");
        due("who is not told", x.prints(0), 0);
        // Wise ones bring just so many that the PRICE is what they guess, whatever is printed.
        Due.read(x, "market 99 1 0;start 1 1 1;kind told 1 0 0 0 0;");
        due("99", x.prints(0), 99);
    }

    private static void promise19() {
        sentence(19, "by examples");
        PigRounds x = new PigRounds();
        due("n 0", x.calm(0, 0), BAD);
        due("n 21", x.calm(21, 0), BAD);
        due("s -1", x.calm(1, -1), BAD);
        due("s 100", x.calm(1, 100), BAD);
        due("no land", x.calm(1, 0), STATE);
        Due.read(x, "market 50 2 1;start 10 20 30;");
        due("the least as a number", x.calm(20, 0), 100500);
        // 10 farmers bring 10 or so: 90 and 0 by turns; one YEAR is always calm.
        Due.read(x, "market 99 10 0;start 10 1 2;kind last 10 0 10 0 999;");
        due("one YEAR", x.calm(1, 0), 100500);
        due("two are not", x.calm(2, 50), NONE);
        due("tried on a copy", x.now(6), 0);
        calmByHand();
        x.ministry(99, 99, 99);
        x.years(2);
        int has = x.now(4);
        int cost = x.now(5);
        x.calm(20, 99);
        due("has", x.now(4), has);
        due("cost", x.now(5), cost);
    }

    private static void calmByHand() {
        // 60 less x: 10, 50, .. With LOW above 10 a LOT of 20 makes 30 of 10, and 30 stays, if HIGH is no
        // less: it costs 600. A LOT of 10 makes 20 of 10; 40 comes then, or, if HIGH is below that, the 10
        // are sold and it is 30: bought for 200, sold for 300. A LOT of 30 makes 40, and 20 or 50 comes.
        PigRounds x = Due.landOf("market 60 1 0;start 50 50 50;kind last 1 0 10 0 999;");
        due("one YEAR", x.calm(1, 0), 100500);
        due("all alike", x.calm(2, 0), 203015);
        due("9 apart", x.calm(2, 9), 203015);
        due("10 apart", x.calm(2, 10), 102015);
        due("99 apart", x.calm(2, 99), 102015);
        x.ministry(60, 60, 50);
        x.years(2);
        due("it has all", x.now(4), 100);
        // The last PRICE is 50 again; with what it has it could sell 30 for 30 each in the second YEAR.
        due("it has none ahead", x.calm(2, 99), 102015);
    }

    private static void promise20() {
        sentence(20, "by examples");
        PigRounds x = new PigRounds();
        x.sheet(0, 2, 60);
        due("all 0", x.shown(0, 0, 15), 8191);
        due("n 0", x.shown(0, 0, 0), BAD);
        due("n 16", x.shown(0, 0, 16), BAD);
        due("sheet 8", x.shown(8, 0, 1), BAD);
        due("missing", x.shown(1, 0, 1), NULL);
        due("NULL ahead of PLACE", x.shown(1, -1, 1), NULL);
        due("i -1", x.shown(0, -1, 1), PLACE);
        due("i 1, all rows", x.shown(0, 1, 15), PLACE);
        due("i 57", x.shown(0, 57, 1), PLACE);
        due("i MOST", x.shown(0, MOST, 1), PLACE);
        due("i 56", x.shown(0, 56, 1), 8191);
        int[] row = {50, 30, 10, 60};
        for (int i = 0; i < 4; i++) {
            x.set(0, 3 + i, row[i]);
        }
        // last 50, mean 40 and 30, trend 52 .. 68, contrary 10.
        due("trend 5", x.shown(0, 3, 1), 1 << 7);
        x.set(0, 6, 40);
        due("mean 2", x.shown(0, 3, 1), 1 << 1);
        x.set(0, 6, 30);
        due("mean 3", x.shown(0, 3, 1), 1 << 2);
        x.set(0, 6, 10);
        due("contrary", x.shown(0, 3, 1), 1 << 12);
        x.set(0, 6, 68);
        due("trend 9", x.shown(0, 3, 1), 1 << 11);
        x.set(0, 6, 50);
        due("last", x.shown(0, 3, 1), 1);
        due("and rows of 0", x.shown(0, 3, 2), 1);
        x.set(0, 59, 99);
        due("99 is a price", x.shown(0, 56, 1), 0);
        x.set(0, 59, 100);
        due("an item", x.shown(0, 0, 15), BAD);
        due("PLACE ahead of an item", x.shown(0, 57, 1), PLACE);
        x.set(0, 59, -1);
        due("an item", x.shown(0, 56, 1), BAD);
        due("not of the rows", x.shown(0, 52, 1), 8191);
    }

    private static void promise21() {
        sentence(21, "by examples");
        PigRounds x = Due.landOf(ALL_WAYS);
        for (int k = 0; k < 5; k++) {
            due("kind " + k, x.kind(k), k + 1);
        }
        due("kind 5", x.kind(5), BAD);
        due("kind -1", x.kind(-1), BAD);
        due("wise", Due.landOf(WISE).kind(0), 6);
        due("no land", new PigRounds().kind(0), BAD);
    }

    private static void promise22() {
        sentence(22, "by examples");
        // Bits: as which GUESSERS each KIND is taken.
        int[] is = {0b11, 0b111, 0b1011, 0b11011, 0b100001, 0b1100001};
        PigRounds all = Due.landOf(ALL_WAYS);
        PigRounds wise = Due.landOf(WISE);
        for (int k = 0; k < 6; k++) {
            PigRounds x = k < 5 ? all : wise;
            for (int g = 0; g < 7; g++) {
                boolean it = (is[k] >> g & 1) == 1;
                due("as " + k + " " + g, x.as(k % 5, g), it ? k + 3 : KIND);
                due("status", x.status(), it ? 0 : 3);
            }
        }
        due("guessers 7", all.as(0, 7), BAD);
        due("guessers -1", all.as(0, -1), BAD);
        due("kind 5", all.as(5, 0), BAD);
        due("kind 1 of 1", wise.as(1, 0), BAD);
    }

    private static void promise23() {
        sentence(23, "by examples");
        PigRounds x = Due.landOf(ALL_WAYS);
        x.print(17);
        asked(x, 0, 0, 3, 11, 10, 20);
        asked(x, 0, 1, 0, 20);
        asked(x, 1, 0, 4 + 1 + 20, 11, 10, 21, 20);
        asked(x, 1, 1, 1 + 20, 21, 20);
        asked(x, 2, 0, 2 * (5 + 2), 12, 11, 10, 20);
        asked(x, 2, 1, 2, 20);
        asked(x, 3, 0, -2 * (6 + 3), 13, 12, 11, 10, 20);
        asked(x, 3, 1, 3, 20);
        asked(x, 4, 0, 7, 10);
        asked(x, 4, 1, 4 + 17, 22, 20);
        PigRounds wise = Due.landOf(WISE);
        wise.print(17);
        asked(wise, 0, 0, 24, 14, 10);
        asked(wise, 0, 1, 17 + 24, 23, 22, 20, 14, 10);
        due("what 2", x.ask(0, 2), BAD);
        due("what -1", x.ask(0, -1), BAD);
        due("kind 5", x.ask(5, 0), BAD);
        due("no land", new PigRounds().ask(0, 0), BAD);
    }

    private static void asked(PigRounds x, int kind, int what, int answer, int... bodies) {
        due("ask " + kind + " " + what, x.ask(kind, what), answer);
        for (int i = 0; i < bodies.length; i++) {
            due("ask " + kind + " " + what + ": trace " + i, x.trace(i), bodies[i]);
        }
        due("ask " + kind + " " + what + ": the end", x.trace(bodies.length), NONE);
    }

    private static void promise24() {
        sentence(24, "by examples");
        PigRounds x = Due.landOf(ALL_WAYS);
        due("none yet", x.trace(0), NONE);
        x.ask(3, 0);
        due("-1", x.trace(-1), NONE);
        due("MOST", x.trace(MOST), NONE);
        due("0", x.trace(0), 13);
        x.ask(3, 9);
        due("BAD changes nothing", x.trace(0), 13);
        x.ask(0, 1);
        due("empty ahead", x.trace(0), 20);
        due("empty ahead", x.trace(1), NONE);
    }

    private static void promise25() {
        sentence(25, "by examples");
        PigRounds x = Due.landOf(ALL_WAYS);
        x.sheet(0, 0, 0);
        x.sheet(7, 0, 5);
        Due.feedText(x, "abc");
        int[] want = {2, 5, 25, 0, 3};
        for (int what = 0; what < 5; what++) {
            due("count " + what, x.count(what), want[what]);
        }
        due("5", x.count(5), BAD);
        due("-1", x.count(-1), BAD);
        Due.read(new PigRounds(), "");
        PigRounds y = Due.landOf("market 9 1 20;start 1 1 1;kind last 3 9 0 0 0;kind last 4 0 0 0 0;");
        y.years(1);
        due("out", y.count(3), 1);
        due("OUT farmers are farmers", y.count(2), 7);
        due("OUT kinds are kinds", y.count(1), 2);
    }

    private static void promise26() {
        sentence(26, "by examples");
        PigRounds x = Due.landOf(ALL_WAYS);
        due("none", x.status(), 0);
        x.set(0, 0, 0);
        due("NULL", x.status(), 1);
        x.set(8, 0, 0);
        due("BAD leaves it", x.status(), 1);
        x.feed(0, 1);
        x.years(1);
        due("other calls leave it", x.status(), 1);
        x.sheet(0, 0, 4);
        due("none", x.status(), 0);
        x.set(0, 4, 0);
        due("PLACE", x.status(), 2);
        x.as(0, 9);
        due("BAD leaves it", x.status(), 2);
        x.as(0, 6);
        due("KIND", x.status(), 3);
        x.as(0, 0);
        due("none", x.status(), 0);
        x.sheet(1, 1, -1);
        due("SIZE", x.status(), 4);
        x.sheet(1, 1, 4);
        x.copy(0, 0, 1, 0, 0);
        due("STORE", x.status(), 5);
        x.set(0, 0, 100);
        due("none", x.status(), 0);
        x.shown(0, 1, 1);
        due("PLACE", x.status(), 2);
        due("an item", x.shown(0, 0, 1), BAD);
        due("BAD leaves it", x.status(), 2);
        x.shown(1, 0, 1);
        due("none", x.status(), 0);
        x.drop(1);
        due("none", x.status(), 0);
        x.drop(1);
        due("NULL", x.status(), 1);
    }
}
