/** Boundaries that Terms and promises 1 to 5 name: SHEETS, LANES, ITEMS and places. */
public final class SheetEdgesTest extends Edges {
    private static final int[] NO_SHEETS = {-1, 8, LEAST, MOST};

    public static void main(String[] args) {
        newObject();
        sheetNumbers();
        lanes();
        sizes();
        inPlaceOfWhatIsThere();
        sheetRefusals();
        bitsOfLanes();
        placesOfSet();
        setRefusals();
        endsOfCopy();
        wrapsOfCopy();
        overlaps();
        copyBetweenLanes();
        copyRefusals();
        drops();
        Due.end();
    }

    private static void newObject() {
        sentence(1, "SHEETS 0 .. 7 are missing (at first)");
        PigRounds x = new PigRounds();
        for (int s = 0; s < 8; s++) {
            due("set " + s, x.set(s, 0, 0), NULL);
            due("copy from " + s, x.copy(s, 0, s, 0, 0), NULL);
            due("drop " + s, x.drop(s), NULL);
            due("shown " + s, x.shown(s, 0, 1), NULL);
        }
        due("count", x.count(0), 0);
        noLand();
    }

    private static void noLand() {
        sentence(1, "No LAND");
        PigRounds x = new PigRounds();
        due("status", x.status(), 0);
        due("fault", x.fault(), 0);
        due("bytes on the tape", x.count(4), 0);
        due("KINDS", x.count(1), 0);
        due("farmers", x.count(2), 0);
        due("OUT", x.count(3), 0);
        due("farmers of 0", x.farmers(0, 0), BAD);
        due("kind 0", x.kind(0), BAD);
        due("as", x.as(0, 0), BAD);
        due("ask", x.ask(0, 0), BAD);
        due("bears", x.bears(1, 1), BAD);
        due("print", x.print(0), STATE);
        due("ministry", x.ministry(0, 0, 0), STATE);
        due("years", x.years(1), STATE);
        for (int what = 0; what < 7; what++) {
            due("now " + what, x.now(what), STATE);
        }
        due("dies", x.dies(), STATE);
        due("steep", x.steep(), STATE);
        due("round 0", x.round(0), STATE);
        due("round 1", x.round(1), STATE);
        due("how many prints", x.prints(-1), STATE);
        due("prints", x.prints(0), STATE);
        due("calm", x.calm(1, 0), STATE);
        due("the end of no text", x.land(), -1000100);
    }

    private static void sheetNumbers() {
        sentence(2, "SHEETS 0 .. 7");
        PigRounds x = new PigRounds();
        for (int s = 0; s < 8; s++) {
            due("sheet " + s, x.sheet(s, 0, s), s);
            due("count behind " + s, x.count(0), s + 1);
        }
        for (int s : NO_SHEETS) {
            due("sheet " + s, x.sheet(s, 0, 1), BAD);
        }
        due("count", x.count(0), 8);
    }

    private static void lanes() {
        sentence(2, "a LANE (0 bytes, 1 shorts, 2 ints)");
        PigRounds x = new PigRounds();
        // Of 70000 the lowest 8 bits are 112, the lowest 16 are 4464.
        int[] cut = {112, 4464, 70000};
        for (int lane = 0; lane < 3; lane++) {
            due("lane " + lane, x.sheet(lane, lane, 1), 1);
            due("70000 in lane " + lane, x.set(lane, 0, 70000), cut[lane]);
        }
        for (int lane : new int[] {-1, 3, LEAST, MOST}) {
            due("lane " + lane, x.sheet(4, lane, 1), BAD);
        }
        due("count", x.count(0), 3);
    }

    private static void sizes() {
        sentence(2, "0 to 60 ITEMS, 0 at first");
        PigRounds x = new PigRounds();
        due("n 0", x.sheet(0, 0, 0), 0);
        due("it is there", x.count(0), 1);
        due("no item 0", x.set(0, 0, 1), PLACE);
        due("n 60", x.sheet(1, 2, 60), 60);
        due("all 0", x.shown(1, 0, 15), 8191);
        due("item 59", x.set(1, 59, 1), 1);
        due("no item 60", x.set(1, 60, 1), PLACE);
        due("n 61", x.sheet(2, 0, 61), BAD);
        due("n MOST", x.sheet(2, 0, MOST), BAD);
        sentence(2, "SIZE (fewer than none)");
        due("n -1", x.sheet(2, 0, -1), SIZE);
        due("status", x.status(), 4);
        due("n LEAST", x.sheet(2, 0, LEAST), SIZE);
        due("none came", x.count(0), 2);
    }

    private static void inPlaceOfWhatIsThere() {
        sentence(2, "in place of what is there");
        PigRounds x = new PigRounds();
        x.sheet(0, 1, 8);
        for (int i = 0; i < 8; i++) {
            x.set(0, i, 50);
        }
        due("fewer", x.sheet(0, 1, 5), 5);
        dueItems("0 again", x, 0, 1, 0, 0, 0, 0, 0);
        due("item 5 is gone", x.set(0, 5, 1), PLACE);
        due("more", x.sheet(0, 1, 8), 8);
        dueItems("0 again", x, 0, 1, 0, 0, 0, 0, 0, 0, 0, 0);
        due("another lane", x.sheet(0, 0, 8), 8);
        due("bytes now", x.set(0, 0, 128), -128);
        due("still one", x.count(0), 1);
    }

    private static void sheetRefusals() {
        sentence(2, "BAD: SHEET, LANE, n above 60; SIZE");
        PigRounds x = new PigRounds();
        x.sheet(0, 1, 2);
        x.set(0, 0, 7);
        x.set(0, 1, 8);
        x.set(0, 2, 0);
        due("status ahead", x.status(), 2);
        due("SHEET ahead of SIZE", x.sheet(8, 0, -1), BAD);
        due("LANE ahead of SIZE", x.sheet(0, 3, -1), BAD);
        due("n", x.sheet(0, 0, 61), BAD);
        due("status stays", x.status(), 2);
        due("found", x.sheet(0, 0, -1), SIZE);
        due("status", x.status(), 4);
        dueItems("what is there stays", x, 0, 1, 7, 8);
        due("its lane, too", x.set(0, 0, 32768), -32768);
        due("its size, too", x.drop(0), 2);
    }

    private static void bitsOfLanes() {
        sentence(3, "its lowest bits, as many as the LANE has");
        PigRounds x = new PigRounds();
        int[][] bytes = {{0, 0}, {1, 1}, {-1, -1}, {127, 127}, {128, -128}, {255, -1}, {256, 0}, {383, 127}, {384, -128},
            {-128, -128}, {-129, 127}, {-256, 0}, {LEAST, 0}, {MOST, -1}, {32767, -1}, {65408, -128}};
        int[][] shorts = {{0, 0}, {-1, -1}, {128, 128}, {32767, 32767}, {32768, -32768}, {65535, -1}, {65536, 0},
            {98303, 32767}, {-32768, -32768}, {-32769, 32767}, {-65536, 0}, {LEAST, 0}, {MOST, -1}};
        int[][] ints = {{0, 0}, {-1, -1}, {32768, 32768}, {65536, 65536}, {MOST, MOST}, {LEAST, LEAST}, {-65537, -65537}};
        int[][][] all = {bytes, shorts, ints};
        for (int lane = 0; lane < 3; lane++) {
            x.sheet(lane, lane, 3);
            for (int[] it : all[lane]) {
                due(it[0] + " in lane " + lane, x.set(lane, 1, it[0]), it[1]);
            }
        }
        due("256 and 33 in a byte", x.set(0, 1, 289), 33);
        dueItems("beside it 0", x, 0, 0, 0, 33, 0);
        due("65536 and 44 in a short", x.set(1, 1, 65580), 44);
        dueItems("beside it 0", x, 1, 1, 0, 44, 0);
    }

    private static void placesOfSet() {
        sentence(3, "PLACE (no such place of a SHEET)");
        PigRounds x = new PigRounds();
        for (int size : new int[] {0, 1, 4, 60}) {
            x.sheet(0, 2, size);
            for (int i : new int[] {0, size - 1}) {
                if (i >= 0 && i < size) {
                    due("item " + i + " of " + size, x.set(0, i, 9), 9);
                    due("status", x.status(), 0);
                }
            }
            for (int i : new int[] {-1, size, size + 1, LEAST, MOST}) {
                due("item " + i + " of " + size, x.set(0, i, 9), PLACE);
                due("status", x.status(), 2);
            }
        }
    }

    private static void setRefusals() {
        sentence(3, "BAD: SHEET; NULL; PLACE");
        PigRounds x = new PigRounds();
        x.sheet(7, 0, 1);
        due("sheet 7", x.set(7, 0, 1), 1);
        for (int s : NO_SHEETS) {
            due("sheet " + s + ", ahead of PLACE", x.set(s, -1, 1), BAD);
        }
        due("BAD leaves status", x.status(), 0);
        due("missing, ahead of PLACE", x.set(0, -1, 1), NULL);
        due("status", x.status(), 1);
        x.drop(7);
        due("dropped", x.set(7, 0, 1), NULL);
    }

    private static void endsOfCopy() {
        sentence(4, "PLACE (i, j, n below 0, or beyond an end)");
        PigRounds x = new PigRounds();
        x.sheet(0, 0, 5);
        x.sheet(1, 0, 3);
        x.sheet(2, 0, 0);
        x.sheet(3, 0, 60);
        due("to both ends", x.copy(0, 2, 1, 0, 3), 3);
        due("to the end of a", x.copy(0, 4, 1, 0, 1), 1);
        due("to the end of b", x.copy(0, 0, 1, 2, 1), 1);
        due("beyond the end of a by 1", x.copy(1, 1, 0, 0, 3), PLACE);
        due("beyond the end of a by 1, of 1", x.copy(1, 3, 0, 0, 1), PLACE);
        due("beyond the end of b by 1", x.copy(0, 0, 1, 1, 3), PLACE);
        due("beyond the end of b by 1, of 1", x.copy(0, 0, 1, 3, 1), PLACE);
        due("all 60", x.copy(3, 0, 3, 0, 60), 60);
        due("61", x.copy(3, 0, 3, 0, 61), PLACE);
        due("none at both ends", x.copy(0, 5, 1, 3, 0), 0);
        due("none beyond the end of a", x.copy(0, 6, 1, 3, 0), PLACE);
        due("none beyond the end of b", x.copy(0, 5, 1, 4, 0), PLACE);
        due("none of none", x.copy(2, 0, 2, 0, 0), 0);
        due("one of none", x.copy(2, 0, 1, 0, 1), PLACE);
        due("one into none", x.copy(1, 0, 2, 0, 1), PLACE);
        due("status", x.status(), 2);
        due("i -1", x.copy(0, -1, 1, 0, 1), PLACE);
        due("i -1 of none", x.copy(0, -1, 1, 0, 0), PLACE);
        due("j -1", x.copy(0, 0, 1, -1, 1), PLACE);
        due("j -1 of none", x.copy(0, 0, 1, -1, 0), PLACE);
        due("n -1", x.copy(0, 1, 1, 1, -1), PLACE);
        due("n 0", x.copy(0, 1, 1, 1, 0), 0);
        due("status", x.status(), 0);
    }

    private static void wrapsOfCopy() {
        sentence(4, "PLACE, where i and n, or j and n, added, wrap around");
        PigRounds x = new PigRounds();
        x.sheet(0, 2, 5);
        for (int far : new int[] {MOST, MOST - 4, LEAST, LEAST + 5}) {
            due("i " + far, x.copy(0, far, 0, 0, 5), PLACE);
            due("j " + far, x.copy(0, 0, 0, far, 5), PLACE);
            due("n " + far, x.copy(0, 5, 0, 5, far), PLACE);
            due("all " + far, x.copy(0, far, 0, far, far), PLACE);
        }
    }

    private static void overlaps() {
        sentence(4, "as they were ahead");
        due("three on by 1", overlapped(0, 1, 3, 1, 1, 2, 3, 5, 6), 3);
        due("three back by 1", overlapped(1, 0, 3, 2, 3, 4, 4, 5, 6), 3);
        due("four on by 2", overlapped(0, 2, 4, 1, 2, 1, 2, 3, 4), 4);
        due("four back by 2", overlapped(2, 0, 4, 3, 4, 5, 6, 5, 6), 4);
        due("five on by 1", overlapped(0, 1, 5, 1, 1, 2, 3, 4, 5), 5);
        due("onto their own place", overlapped(0, 0, 6, 1, 2, 3, 4, 5, 6), 6);
        due("side by side", overlapped(0, 3, 3, 1, 2, 3, 1, 2, 3), 3);
        due("none", overlapped(0, 3, 0, 1, 2, 3, 4, 5, 6), 0);
    }

    /** Within a SHEET of 1 to 6; the answer of the copy. */
    private static int overlapped(int i, int j, int n, int... then) {
        int copied = 0;
        for (int lane = 0; lane < 3; lane++) {
            PigRounds x = new PigRounds();
            x.sheet(0, lane, 6);
            for (int k = 0; k < 6; k++) {
                x.set(0, k, k + 1);
            }
            copied = x.copy(0, i, 0, j, n);
            dueItems("from " + i + " to " + j, x, 0, lane, then);
        }
        return copied;
    }

    private static void copyBetweenLanes() {
        sentence(4, "STORE (SHEETS of two LANES)");
        PigRounds x = new PigRounds();
        for (int lane = 0; lane < 3; lane++) {
            x.sheet(lane, lane, 2);
            x.sheet(lane + 3, lane, 2);
            x.set(lane, 0, 10 + lane);
        }
        for (int a = 0; a < 3; a++) {
            for (int b = 0; b < 3; b++) {
                due("from lane " + a + " to lane " + b, x.copy(a, 0, b + 3, 1, 1), a == b ? 1 : STORE);
                due("status", x.status(), a == b ? 0 : 5);
            }
        }
        for (int lane = 0; lane < 3; lane++) {
            dueItems("of its own lane alone", x, lane + 3, lane, 0, 10 + lane);
            dueItems("a stays", x, lane, lane, 10 + lane, 0);
        }
        due("none at all, too", x.copy(0, 0, 4, 0, 0), STORE);
    }

    private static void copyRefusals() {
        sentence(4, "BAD: SHEETS; NULL; STORE; PLACE");
        PigRounds x = new PigRounds();
        x.sheet(0, 0, 4);
        x.sheet(1, 1, 4);
        for (int s : NO_SHEETS) {
            due("a " + s + ", ahead of NULL", x.copy(s, 0, 5, 0, 0), BAD);
            due("b " + s + ", ahead of NULL", x.copy(5, 0, s, 0, 0), BAD);
            due("a " + s + ", ahead of PLACE", x.copy(s, -1, 0, -1, -1), BAD);
            due("b " + s + ", ahead of PLACE", x.copy(0, -1, s, -1, -1), BAD);
        }
        due("status stays", x.status(), 0);
        due("a missing, ahead of PLACE", x.copy(5, 0, 0, 5, 1), NULL);
        due("b missing, ahead of PLACE", x.copy(0, 5, 5, 0, 1), NULL);
        due("status", x.status(), 1);
        x.sheet(5, 2, 4);
        x.drop(5);
        due("a dropped, ahead of STORE", x.copy(5, 0, 0, 0, 1), NULL);
        due("b dropped, ahead of STORE", x.copy(0, 0, 5, 0, 1), NULL);
        due("STORE ahead of PLACE of a", x.copy(0, 5, 1, 0, 1), STORE);
        due("STORE ahead of PLACE of b", x.copy(0, 0, 1, 5, 1), STORE);
        due("STORE ahead of PLACE by n", x.copy(0, 0, 1, 0, -1), STORE);
    }

    private static void drops() {
        sentence(5, "missing from now on: how many ITEMS it had. BAD; NULL");
        PigRounds x = new PigRounds();
        for (int s : NO_SHEETS) {
            due("sheet " + s, x.drop(s), BAD);
        }
        x.sheet(0, 0, 0);
        x.sheet(7, 2, 60);
        x.set(7, 0, 5);
        due("of none", x.drop(0), 0);
        due("status", x.status(), 0);
        due("one left", x.count(0), 1);
        due("of 60", x.drop(7), 60);
        due("none left", x.count(0), 0);
        due("again", x.drop(7), NULL);
        due("status", x.status(), 1);
        due("shown", x.shown(7, 0, 1), NULL);
        due("BAD", x.drop(8), BAD);
        due("status stays", x.status(), 1);
        due("anew, smaller", x.sheet(7, 2, 1), 1);
        dueItemAnew(x);
    }

    private static void dueItemAnew(PigRounds x) {
        x.sheet(6, 2, 4);
        x.set(6, 3, 9);
        due("its one item comes", x.copy(7, 0, 6, 3, 1), 1);
        due("it is 0", x.shown(6, 0, 1), 8191);
        due("no item 1", x.set(7, 1, 1), PLACE);
    }
}
