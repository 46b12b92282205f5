import java.util.ArrayList;
import java.util.List;

/**
 * What calls leave behind: of two like objects one gets a call more, then both are asked for all there is.
 * Terms: "What is refused, or found, changes nothing but status()"; "What is tried is tried on a copy";
 * "A LAND that is read stands in place of the one before".
 */
public final class TwinTest extends Edges {
    private interface Call {
        int on(PigRounds x);
    }

    private static final String[] STAGES = {"new", "read", "lived", "full tape"};
    private static final int NEW = 0, READ = 1, LIVED = 2, FULL_TAPE = 3;
    private static final String[] TEXTS = {"market 90 2 1;start 30 20 10;", "market 90 2 1;start 30 20 10;kind wise 1 2 3 4 5;",
        "market 50 20 0;start 30 20 10;kind wise 9 2 8 3 99;kind told 3 1 9 0 0;", "market 50 9 0;start 9 9 9;kind last 9 2 8 3 99;",
        "market 70 8 0;start 30 20 10;kind told 3 1 9 0 0;kind wise 9 2 8 3 99;kind mean 3 3 1 9 0 0;",
        "market 99 5 3;start 30 50 10;kind mean 2 5 2 9 0 50;kind contrary 2 1 9 0 0;kind trend 3 1 1 1 1 1;kind last 1 0 0 0 0;"};

    public static void main(String[] args) {
        refusedSheets();
        refusedFeed();
        refusedLands();
        refusedWithoutALand();
        refusedRounds();
        refusedAsked();
        faults();
        questions();
        tries();
        landsInPlaceOfOthers();
        Due.end();
    }

    /** An object with something of all that an object can hold; the later the stage, the more. */
    private static PigRounds at(int stage) {
        PigRounds x = new PigRounds();
        if (stage == NEW) {
            return x;
        }
        for (int lane = 0; lane < 3; lane++) {
            x.sheet(lane, lane, 9 - lane);
            for (int i = 0; i < 9 - lane; i++) {
                x.set(lane, i, 33 + lane);
            }
        }
        x.sheet(3, 2, 4);
        x.set(3, 2, 100);
        Due.read(x, "market 0");
        Due.read(x, "market 95 3 2;start 40 50 60;kind last 4 1 5 3 200;kind mean 3 5 1 5 3 40;kind trend 5 4 2 5 99 10;"
            + "kind told 2 3 6 1 50;kind wise 3 2 5 2 60;");
        if (stage >= LIVED) {
            x.print(17);
            x.ministry(60, 70, 11);
            x.years(3);
            x.ask(2, 0);
            x.copy(0, 0, 1, 0, 1);
        }
        Due.feedText(x, "market 77 7 7;start 7 8 9" + (stage == FULL_TAPE ? " ".repeat(370) : ""));
        return x;
    }

    /** All that can be asked of an object, status first, then what comes of it when it goes on. */
    private static List<Integer> allOf(PigRounds x) {
        List<Integer> all = new ArrayList<>();
        all.add(x.status());
        all.add(x.fault());
        for (int i = 0; i < 7; i++) {
            all.add(x.trace(i));
        }
        addSheets(x, all);
        addAllOfLand(x, all);
        all.add(x.print(5));
        all.add(x.feed(';', 1));
        all.add(x.land());
        addLand(x, all);
        return all;
    }

    private static void addAllOfLand(PigRounds x, List<Integer> all) {
        addLand(x, all);
        all.add(x.dies());
        all.add(x.steep());
        all.add(x.round(0));
        all.add(x.round(1));
        all.add(x.bears(1, 3));
        all.add(x.prints(-1));
        all.add(x.prints(0));
        all.add(x.calm(3, 30));
        all.add(x.years(2));
        addLand(x, all);
    }

    private static void addSheets(PigRounds x, List<Integer> all) {
        for (int s = 0; s < 8; s++) {
            // Each ITEM is a GUESS, or a PRICE, of some row, so each change is seen.
            for (int i = 0; i < 7; i++) {
                all.add(x.shown(s, i, 1));
            }
            all.add(x.set(s, 0, 70000));
            all.add(x.drop(s));
        }
    }

    private static void addLand(PigRounds x, List<Integer> all) {
        for (int what = 0; what < 5; what++) {
            all.add(x.count(what));
        }
        for (int what = 0; what < 7; what++) {
            all.add(x.now(what));
        }
        for (int k = 0; k < 5; k++) {
            all.add(x.kind(k));
            for (int what = 0; what < 8; what++) {
                all.add(x.farmers(k, what));
            }
        }
    }

    /** The call must answer so, and leave all as it was but for status(), which must be so then. */
    private static void leavesAll(int stage, String name, Call call, int want, int status) {
        PigRounds x = at(stage);
        List<Integer> due = allOf(at(stage));
        due(name + ", " + STAGES[stage], call.on(x), want);
        due.set(0, status);
        dueAll(name + ", " + STAGES[stage] + ": what it leaves", allOf(x), due);
    }

    private static void dueAll(String what, List<Integer> got, List<Integer> want) {
        for (int i = 0; i < want.size(); i++) {
            due(what + ", " + i, got.get(i), want.get(i));
        }
    }

    private static void refuses(int stage, String name, Call call, int want) {
        leavesAll(stage, name, call, want, at(stage).status());
    }

    private static void finds(int stage, String name, Call call, int finding) {
        leavesAll(stage, name, call, finding, -1000010 - finding);
    }

    private static void refusedSheets() {
        for (int stage = NEW; stage <= LIVED; stage++) {
            sentence(2, "What is refused, or found, changes nothing but status()");
            refuses(stage, "sheet 8", x -> x.sheet(8, 0, 1), BAD);
            refuses(stage, "lane 3", x -> x.sheet(0, 3, 1), BAD);
            refuses(stage, "61 items", x -> x.sheet(0, 0, 61), BAD);
            finds(stage, "-1 items", x -> x.sheet(0, 0, -1), SIZE);
            sentence(3, "What is refused, or found, changes nothing but status()");
            refuses(stage, "set 8", x -> x.set(8, 0, 1), BAD);
            finds(stage, "set 5", x -> x.set(5, 0, 1), NULL);
            sentence(4, "What is refused, or found, changes nothing but status()");
            refuses(stage, "copy 8", x -> x.copy(8, 0, 0, 0, 1), BAD);
            refuses(stage, "copy to -1", x -> x.copy(0, 0, -1, 0, 1), BAD);
            finds(stage, "copy 5", x -> x.copy(5, 0, 0, 0, 1), NULL);
            finds(stage, "copy to 5", x -> x.copy(0, 0, 5, 0, 1), NULL);
            sentence(5, "What is refused, or found, changes nothing but status()");
            refuses(stage, "drop 8", x -> x.drop(8), BAD);
            finds(stage, "drop 5", x -> x.drop(5), NULL);
            sentence(20, "What is refused, or found, changes nothing but status()");
            refuses(stage, "shown 8", x -> x.shown(8, 0, 1), BAD);
            refuses(stage, "shown 0 rows", x -> x.shown(0, 0, 0), BAD);
            finds(stage, "shown 5", x -> x.shown(5, 0, 1), NULL);
        }
        sentence(3, "PLACE changes nothing but status()");
        finds(LIVED, "set 9 of 9", x -> x.set(0, 9, 1), PLACE);
        finds(LIVED, "set -1", x -> x.set(0, -1, 1), PLACE);
        sentence(4, "STORE, PLACE change nothing but status()");
        finds(LIVED, "copy between lanes", x -> x.copy(0, 0, 1, 0, 1), STORE);
        finds(LIVED, "copy beyond a", x -> x.copy(2, 0, 2, 1, 7), PLACE);
        finds(LIVED, "copy beyond b", x -> x.copy(2, 1, 2, 0, 7), PLACE);
        sentence(20, "PLACE, BAD: an ITEM change nothing");
        finds(LIVED, "shown beyond", x -> x.shown(0, 6, 1), PLACE);
        refuses(LIVED, "shown an ITEM", x -> x.shown(3, 0, 1), BAD);
    }

    private static void refusedFeed() {
        sentence(6, "BAD: n; FULL: none comes");
        for (int stage = NEW; stage <= FULL_TAPE; stage++) {
            refuses(stage, "feed 0", x -> x.feed(-1, 0), BAD);
            refuses(stage, "feed 9", x -> x.feed(-1, 9), BAD);
        }
        // The tape has 395 bytes.
        refuses(FULL_TAPE, "feed 6", x -> x.feed(0x202020202020L, 6), FULL);
        refuses(FULL_TAPE, "feed 8", x -> x.feed(-1, 8), FULL);
    }

    private static void refusedLands() {
        for (int stage = READ; stage <= LIVED; stage++) {
            sentence(9, "What is refused changes nothing");
            refuses(stage, "farmers of 5", x -> x.farmers(5, 0), BAD);
            refuses(stage, "farmers 8", x -> x.farmers(0, 8), BAD);
            sentence(10, "What is refused changes nothing");
            refuses(stage, "print -1", x -> x.print(-1), BAD);
            refuses(stage, "print 100", x -> x.print(100), BAD);
            sentence(11, "What is refused changes nothing");
            refuses(stage, "low -1", x -> x.ministry(-1, 50, 9), BAD);
            refuses(stage, "high 100", x -> x.ministry(50, 100, 9), BAD);
            refuses(stage, "high less", x -> x.ministry(50, 49, 9), BAD);
            refuses(stage, "lot 100", x -> x.ministry(50, 50, 100), BAD);
            refuses(stage, "lot -1", x -> x.ministry(50, 50, -1), BAD);
            sentence(12, "What is refused changes nothing");
            refuses(stage, "years 0", x -> x.years(0), BAD);
            refuses(stage, "years 101", x -> x.years(101), BAD);
            sentence(13, "What is refused changes nothing");
            refuses(stage, "now 7", x -> x.now(7), BAD);
        }
    }

    private static void refusedWithoutALand() {
        sentence(10, "STATE: no LAND");
        refuses(NEW, "print", x -> x.print(99), STATE);
        sentence(11, "STATE: no LAND");
        refuses(NEW, "ministry", x -> x.ministry(99, 99, 99), STATE);
        sentence(12, "STATE: no LAND");
        refuses(NEW, "years", x -> x.years(100), STATE);
        sentence(13, "STATE: no LAND");
        refuses(NEW, "now", x -> x.now(0), STATE);
        sentence(14, "STATE: no LAND");
        refuses(NEW, "dies", x -> x.dies(), STATE);
        sentence(15, "STATE: no LAND");
        refuses(NEW, "steep", x -> x.steep(), STATE);
        sentence(16, "STATE: no LAND");
        refuses(NEW, "round", x -> x.round(0), STATE);
        sentence(18, "STATE: no LAND");
        refuses(NEW, "prints", x -> x.prints(-1), STATE);
        sentence(19, "STATE: no LAND");
        refuses(NEW, "calm", x -> x.calm(20, 99), STATE);
        stateLeavesTheNextLand();
    }

    /** What was ordered, printed or lived ahead of the first LAND is not in it. */
    private static void stateLeavesTheNextLand() {
        sentence(7, "THE YEAR is 0, THE PRINT the last PRICE, the ministry has none and is off");
        PigRounds x = new PigRounds();
        x.print(99);
        x.ministry(99, 99, 99);
        x.years(100);
        due("it is read", Due.read(x, "market 90 1 0;start 60 30 20;kind last 1 9 0 0 9;"), 1);
        due("THE YEAR", x.now(6), 0);
        due("off", x.years(1), 81);
        due("THE PRINT", x.print(0), 60);
    }

    private static void refusedRounds() {
        for (int stage = READ; stage <= LIVED; stage++) {
            sentence(16, "What is refused changes nothing");
            refuses(stage, "round 2", x -> x.round(2), BAD);
            sentence(17, "What is refused changes nothing");
            refuses(stage, "bears 0", x -> x.bears(0, 1), BAD);
            refuses(stage, "bears 5", x -> x.bears(5, 1), BAD);
            refuses(stage, "bears by 0", x -> x.bears(1, 0), BAD);
            refuses(stage, "bears by 31", x -> x.bears(1, 31), BAD);
            sentence(18, "What is refused changes nothing");
            refuses(stage, "prints -2", x -> x.prints(-2), BAD);
            sentence(19, "What is refused changes nothing");
            refuses(stage, "calm 0", x -> x.calm(0, 0), BAD);
            refuses(stage, "calm 21", x -> x.calm(21, 0), BAD);
            refuses(stage, "calm, s 100", x -> x.calm(1, 100), BAD);
        }
    }

    private static void refusedAsked() {
        for (int stage = READ; stage <= LIVED; stage++) {
            sentence(21, "What is refused changes nothing");
            refuses(stage, "kind 5", x -> x.kind(5), BAD);
            sentence(22, "What is refused, or found, changes nothing but status()");
            refuses(stage, "as 7", x -> x.as(0, 7), BAD);
            refuses(stage, "as of 5", x -> x.as(5, 0), BAD);
            finds(stage, "as no such ones", x -> x.as(0, 2), KIND);
            sentence(23, "What is refused changes nothing");
            refuses(stage, "ask 2", x -> x.ask(0, 2), BAD);
            refuses(stage, "ask of 5", x -> x.ask(5, 0), BAD);
            sentence(25, "What is refused changes nothing");
            refuses(stage, "count 5", x -> x.count(5), BAD);
        }
    }

    private static void faults() {
        sentence(7, "-1000100 less the place of a FAULT: the LAND stays");
        String[] texts = {"market 0", "market 1 1 1;start 1 1 1;kind wise 9 9 9 9 9;kind wise 9 9 9 9 999"};
        int[] numbers = {2, 1};
        int[] places = {7, 66};
        for (int i = 0; i < texts.length; i++) {
            PigRounds x = at(LIVED);
            PigRounds y = at(LIVED);
            // Both tapes are empty then, and the latest FAULT is the same.
            x.land();
            y.land();
            Due.read(y, "market 0");
            due("a FAULT", Due.read(x, texts[i]), -1000100 - places[i]);
            List<Integer> due = allOf(y);
            due.set(1, numbers[i]);
            dueAll("'" + texts[i] + "' leaves", allOf(x), due);
        }
    }

    /** Answers that are no refusals, and change nothing. */
    private static void questions() {
        sentence(9, "a question changes nothing");
        for (int k = 0; k < 5; k++) {
            for (int what = 0; what < 8; what++) {
                int kind = k;
                int it = what;
                leaves("farmers " + k + " " + what, x -> x.farmers(kind, it));
            }
        }
        sentence(13, "a question changes nothing");
        leaves("now", x -> x.now(3));
        sentence(8, "a question changes nothing");
        leaves("fault", x -> x.fault());
        sentence(21, "a question changes nothing");
        leaves("kind", x -> x.kind(0));
        sentence(24, "a question changes nothing");
        leaves("trace", x -> x.trace(0));
        leaves("trace beyond", x -> x.trace(99));
        sentence(25, "a question changes nothing");
        leaves("count", x -> x.count(0));
        sentence(26, "a question changes nothing");
        leaves("status", x -> x.status());
        sentence(20, "a question changes nothing but status()");
        leavesAll(LIVED, "shown", x -> x.shown(2, 0, 1), 8191, 0);
        sentence(22, "a question changes nothing but status()");
        leavesAll(LIVED, "as", x -> x.as(4, 5), 3, 0);
    }

    private static void tries() {
        sentence(14, "What is tried is tried on a copy of all as it is now");
        leaves("dies", x -> x.dies());
        sentence(15, "What is tried is tried on a copy of all as it is now");
        leaves("steep", x -> x.steep());
        sentence(16, "What is tried is tried on a copy of all as it is now");
        leaves("round p", x -> x.round(0));
        leaves("round t", x -> x.round(1));
        sentence(17, "What is tried is tried on a copy of all as it is now");
        for (int k = 1; k < 5; k++) {
            int kind = k;
            leaves("bears " + k, x -> x.bears(kind, 30));
        }
        sentence(18, "What is tried is tried on a copy of all as it is now");
        leaves("prints", x -> x.prints(-1));
        leaves("prints 0", x -> x.prints(0));
        sentence(19, "What is tried is tried on a copy of all as it is now");
        leaves("calm", x -> x.calm(20, 50));
    }

    private static void leaves(String name, Call call) {
        for (int stage = READ; stage <= LIVED; stage++) {
            PigRounds y = at(stage);
            int want = call.on(y);
            dueTrue(name + " is no refusal", want >= NONE);
            refuses(stage, name, call, want);
        }
    }

    private static void landsInPlaceOfOthers() {
        sentence(7, "A LAND that is read stands in place of the one before");
        for (String text : TEXTS) {
            PigRounds fresh = new PigRounds();
            List<Integer> due = new ArrayList<>();
            due.add(Due.read(fresh, text));
            addAllOfLand(fresh, due);
            due.add(fresh.print(5));
            for (int before = 1; before <= 3; before++) {
                dueAsFresh("'" + text + "' behind " + before, withLandsBefore(before), text, due);
                PigRounds x = withLandsBefore(before);
                Due.read(x, "market 9 9 9;start 9 9 9;kind wise 40 9 20 99 0;kind last 40 9 20 99 0;kind last 40");
                dueAsFresh("'" + text + "' behind " + before + " and a FAULT", x, text, due);
            }
        }
    }

    private static void dueAsFresh(String what, PigRounds x, String text, List<Integer> due) {
        List<Integer> got = new ArrayList<>();
        got.add(Due.read(x, text));
        addAllOfLand(x, got);
        got.add(x.print(5));
        dueAll(what, got, due);
    }

    /** So many LANDS were read and lived, with a ministry that paid for pigs, and with KINDS that went OUT. */
    private static PigRounds withLandsBefore(int lands) {
        PigRounds x = new PigRounds();
        for (int i = 0; i < lands; i++) {
            Due.read(x, "market 95 20 20;start 10 10 10;kind last 9 0 20 0 999;kind wise 9 0 20 0 999;kind told 1 1 0 99 0;"
                + "kind wise 9 9 9 0 999;kind wise 1 1 0 99 0;");
            x.print(77);
            x.ministry(99, 99, 50);
            x.years(3);
            due("two are OUT", x.count(3), 2);
            due("the ministry has some", x.now(4), 150);
            dueTrue("and paid for them", x.now(5) > 0);
            x.round(0);
            x.calm(2, 99);
        }
        return x;
    }
}
