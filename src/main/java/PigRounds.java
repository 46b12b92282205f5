import java.util.Arrays;

/** Pigs and prices, as the document tells; its words in capitals are used here in its sense. */
public final class PigRounds {
    public static final int NONE = -1000000, BAD = -1000001, STATE = -1000002, FULL = -1000003;

    private static final int FINDINGS = -1000010;
    private static final int NULL = 1, PLACE = 2, KIND = 3, SIZE = 4, STORE = 5;
    private static final int FAULTS = -1000100;

    private static final int MOST_SHEETS = 8, MOST_KINDS = 5, HIGHEST = 99;

    private final Sheet[] sheets = new Sheet[MOST_SHEETS];
    private final Tape tape = new Tape();
    private final Reader reader = new Reader(tape);
    private final Trials trials = new Trials();
    private final Asker asker = new Asker();
    private Land land = new Land();
    // A text is read into this one, so that a FAULT leaves the LAND as it was.
    private Land spare = new Land();
    private boolean landed = false;
    private int latestFault = 0;
    private int latestFinding = 0;

    public PigRounds() {
        for (int s = 0; s < sheets.length; s++) {
            sheets[s] = new Sheet();
        }
    }

    // ---- sheets

    public int sheet(int sheet, int lane, int n) {
        if (!isSheet(sheet) || lane < Sheet.BYTES || lane > Sheet.INTS || n > Sheet.MOST_ITEMS) {
            return BAD;
        }
        if (n < 0) {
            return found(SIZE);
        }
        sheets[sheet].begin(lane, n);
        return foundNone(n);
    }

    public int set(int sheet, int i, int v) {
        if (!isSheet(sheet)) {
            return BAD;
        }
        Sheet s = sheets[sheet];
        if (s.missing) {
            return found(NULL);
        }
        if (!s.holds(i, 1)) {
            return found(PLACE);
        }
        s.items[i] = s.cutToLane(v);
        return foundNone(s.items[i]);
    }

    public int copy(int a, int i, int b, int j, int n) {
        if (!isSheet(a) || !isSheet(b)) {
            return BAD;
        }
        Sheet from = sheets[a];
        Sheet to = sheets[b];
        if (from.missing || to.missing) {
            return found(NULL);
        }
        if (from.lane != to.lane) {
            return found(STORE);
        }
        if (!from.holds(i, n) || !to.holds(j, n)) {
            return found(PLACE);
        }
        System.arraycopy(from.items, i, to.items, j, n);
        return foundNone(n);
    }

    public int drop(int sheet) {
        if (!isSheet(sheet)) {
            return BAD;
        }
        if (sheets[sheet].missing) {
            return found(NULL);
        }
        sheets[sheet].missing = true;
        return foundNone(sheets[sheet].size);
    }

    // ---- lands

    public int feed(long w, int n) {
        if (n < 1 || n > 8) {
            return BAD;
        }
        if (!tape.hasRoomFor(n)) {
            return FULL;
        }
        tape.append(w, n);
        return tape.length;
    }

    public int land() {
        reader.readInto(spare);
        tape.length = 0;
        if (reader.fault != Reader.NO_FAULT) {
            latestFault = reader.fault;
            return FAULTS - reader.start;
        }
        Land before = land;
        land = spare;
        spare = before;
        landed = true;
        return land.kindCount;
    }

    public int fault() {
        return latestFault;
    }

    public int farmers(int kind, int what) {
        Kind k = kindOf(kind);
        if (k == null) {
            return BAD;
        }
        switch (what) {
            case 0: return k.many;
            case 1: return k.base;
            case 2: return k.slope;
            case 3: return k.rent;
            case 4: return k.coin;
            case 5: return k.out ? 1 : 0;
            case 6: return land.guessOf(k);
            case 7: return k.pigsBy(land.guessOf(k));
            default: return BAD;
        }
    }

    public int print(int price) {
        if (price < 0 || price > HIGHEST) {
            return BAD;
        }
        if (!landed) {
            return STATE;
        }
        int before = land.printed;
        land.printed = price;
        return before;
    }

    public int ministry(int low, int high, int lot) {
        if (low < 0 || high < low || high > HIGHEST || lot < 0 || lot > HIGHEST) {
            return BAD;
        }
        if (!landed) {
            return STATE;
        }
        land.ministry.order(low, high, lot);
        return 1;
    }

    public int years(int n) {
        if (n < 1 || n > 100) {
            return BAD;
        }
        if (!landed) {
            return STATE;
        }
        for (int y = 0; y < n; y++) {
            land.liveYear();
        }
        return land.a;
    }

    public int now(int what) {
        if (what < 0 || what > 6) {
            return BAD;
        }
        if (!landed) {
            return STATE;
        }
        switch (what) {
            case 0: return land.a;
            case 1: return land.b;
            case 2: return land.c;
            case 3: return land.pigs;
            case 4: return land.ministry.stock;
            case 5: return land.ministry.cost;
            default: return land.year;
        }
    }

    // ---- rounds

    public int dies() {
        return landed ? land.outlookAt(land.depth) : STATE;
    }

    public int steep() {
        if (!landed) {
            return STATE;
        }
        for (int depth = 1; depth <= Land.MOST_DEPTH; depth++) {
            if (land.outlookAt(depth) == Land.DIES) {
                return depth;
            }
        }
        return NONE;
    }

    public int round(int what) {
        if (what < 0 || what > 1) {
            return BAD;
        }
        if (!landed) {
            return STATE;
        }
        trials.seekRound(land);
        return what == 0 ? trials.roundLength : trials.roundEnd;
    }

    public int bears(int kind, int n) {
        if (kind < 1 || kindOf(kind) == null || n < 1 || n > 30) {
            return BAD;
        }
        return trials.mostBorne(land, kind, n);
    }

    public int prints(int i) {
        if (i < -1) {
            return BAD;
        }
        return landed ? trials.truePrint(land, i) : STATE;
    }

    public int calm(int n, int s) {
        if (n < 1 || n > 20 || s < 0 || s > HIGHEST) {
            return BAD;
        }
        return landed ? trials.cheapestCalm(land, n, s) : STATE;
    }

    public int shown(int sheet, int i, int n) {
        if (!isSheet(sheet) || n < 1 || n > 15) {
            return BAD;
        }
        Sheet s = sheets[sheet];
        if (s.missing) {
            return found(NULL);
        }
        if (!s.holds(i, n * Rows.WIDTH)) {
            return found(PLACE);
        }
        if (!Rows.arePrices(s.items, i, n)) {
            return BAD;
        }
        return foundNone(Rows.waysShown(s.items, i, n));
    }

    // ---- asked

    public int kind(int kind) {
        Kind k = kindOf(kind);
        return k == null ? BAD : k.way;
    }

    public int as(int kind, int guessers) {
        Kind k = kindOf(kind);
        if (k == null || guessers < 0 || guessers > Way.WISE) {
            return BAD;
        }
        return Way.isOne(k.way, guessers) ? foundNone(k.many) : found(KIND);
    }

    public int ask(int kind, int what) {
        Kind k = kindOf(kind);
        if (k == null || what < Asker.SIZE_ASK || what > Asker.MARK_ASK) {
            return BAD;
        }
        return asker.answer(k, kind, land.printed, what);
    }

    public int trace(int i) {
        return asker.traceAt(i);
    }

    public int count(int what) {
        switch (what) {
            case 0: return sheetCount();
            case 1: return land.kindCount;
            case 2: return land.farmerCount();
            case 3: return land.outCount();
            case 4: return tape.length;
            default: return BAD;
        }
    }

    public int status() {
        return latestFinding;
    }

    private boolean isSheet(int sheet) {
        return sheet >= 0 && sheet < sheets.length;
    }

    private int sheetCount() {
        int there = 0;
        for (Sheet s : sheets) {
            if (!s.missing) {
                there++;
            }
        }
        return there;
    }

    private Kind kindOf(int kind) {
        return land.kindAt(kind);
    }

    private int found(int finding) {
        latestFinding = finding;
        return FINDINGS - finding;
    }

    private int foundNone(int answer) {
        latestFinding = 0;
        return answer;
    }

    /** A SHEET; its row is made once and used again by each SHEET that takes its place. */
    private static final class Sheet {
        static final int BYTES = 0, SHORTS = 1, INTS = 2, MOST_ITEMS = 60;

        final int[] items = new int[MOST_ITEMS];
        boolean missing = true;
        int lane = BYTES;
        int size = 0;

        void begin(int newLane, int n) {
            missing = false;
            lane = newLane;
            size = n;
            Arrays.fill(items, 0);
        }

        boolean holds(int from, int n) {
            // Not from + n, which could wrap around.
            return n >= 0 && from >= 0 && from <= size - n;
        }

        int cutToLane(int v) {
            if (lane == BYTES) {
                return (byte) v;
            }
            return lane == SHORTS ? (short) v : v;
        }
    }

    /** THE TAPE. */
    private static final class Tape {
        static final int MOST_BYTES = 400, BEYOND = -1;

        final byte[] bytes = new byte[MOST_BYTES];
        int length = 0;

        boolean hasRoomFor(int n) {
            return n <= bytes.length - length;
        }

        void append(long w, int n) {
            for (int left = n - 1; left >= 0 && length < bytes.length; left--) {
                bytes[length] = (byte) (w >> (8 * left));
                length++;
            }
        }

        int byteAt(int place) {
            return place >= 0 && place < length && place < bytes.length ? bytes[place] & 255 : BEYOND;
        }
    }

    /** Reads the text on the tape, TOKEN by TOKEN; the first FAULT ends it, and start is its place. */
    private static final class Reader {
        static final int NO_FAULT = 0, CANNOT_STAND = 1, NOT_AS_TOLD = 2, NO_ROOM = 3;

        private static final int END = 0, NAME = 1, NUMBER = 2, SIGN = 3, GAP = 4, NO_TOKEN = 5;
        private static final int MOST_FIGURES = 3;
        private static final int[] LEAST_OF_MARKET = {1, 1, 0}, MOST_OF_MARKET = {99, 20, 20};
        private static final int[] LEAST_OF_START = {0, 0, 0}, MOST_OF_START = {99, 99, 99};
        private static final int[] LEAST_OF_KIND = {1, 0, 0, 0, 0}, MOST_OF_KIND = {40, 9, 20, 99, 999};

        private final Tape tape;
        private final int[] numbers = new int[5];
        private int place = 0;
        private int token = END;
        private int value = 0;
        int start = 0;
        int fault = NO_FAULT;

        Reader(Tape tape) {
            this.tape = tape;
        }

        void readInto(Land land) {
            place = 0;
            fault = NO_FAULT;
            land.clear();
            boolean more = readMarket(land) && readStart(land);
            // One more than there is room for, so that it is met and told.
            for (int k = 0; more && k <= MOST_KINDS; k++) {
                scan();
                more = token != END && readKind(land);
            }
        }

        private boolean readMarket(Land land) {
            if (!takeName("market") || !takeNumbers(LEAST_OF_MARKET, MOST_OF_MARKET)) {
                return false;
            }
            land.top = numbers[0];
            land.depth = numbers[1];
            land.feed = numbers[2];
            return true;
        }

        private boolean readStart(Land land) {
            if (!takeName("start") || !takeNumbers(LEAST_OF_START, MOST_OF_START)) {
                return false;
            }
            land.a = numbers[0];
            land.b = numbers[1];
            land.c = numbers[2];
            land.printed = land.a;
            return true;
        }

        private boolean readKind(Land land) {
            if (!nameIs("kind")) {
                return failed(CANNOT_STAND);
            }
            Kind kind = land.nextKind();
            if (kind == null) {
                return failed(NO_ROOM);
            }
            if (!readWay(kind) || !takeNumbers(LEAST_OF_KIND, MOST_OF_KIND)) {
                return false;
            }
            kind.many = numbers[0];
            kind.base = numbers[1];
            kind.slope = numbers[2];
            kind.rent = numbers[3];
            kind.coin = numbers[4];
            return true;
        }

        private boolean readWay(Kind kind) {
            scan();
            kind.way = wayNamed();
            kind.number = 0;
            switch (kind.way) {
                case Way.GUESSER:
                    return failed(CANNOT_STAND);
                case Way.MEAN:
                    if (!takeNumber(1, 3)) {
                        return false;
                    }
                    kind.number = value;
                    return true;
                case Way.TREND:
                    if (!takeNumber(0, 9)) {
                        return false;
                    }
                    kind.number = value;
                    return true;
                default:
                    return true;
            }
        }

        private int wayNamed() {
            if (nameIs("last")) {
                return Way.LAST;
            }
            if (nameIs("mean")) {
                return Way.MEAN;
            }
            if (nameIs("trend")) {
                return Way.TREND;
            }
            if (nameIs("contrary")) {
                return Way.CONTRARY;
            }
            if (nameIs("told")) {
                return Way.TOLD;
            }
            return nameIs("wise") ? Way.WISE : Way.GUESSER;
        }

        private boolean takeName(String name) {
            scan();
            return nameIs(name) || failed(CANNOT_STAND);
        }

        /** As many NUMBERS as there are bounds, and the SIGN behind them. */
        private boolean takeNumbers(int[] least, int[] most) {
            for (int i = 0; i < least.length && i < most.length && i < numbers.length; i++) {
                if (!takeNumber(least[i], most[i])) {
                    return false;
                }
                numbers[i] = value;
            }
            scan();
            return token == SIGN || failed(CANNOT_STAND);
        }

        private boolean takeNumber(int least, int most) {
            scan();
            if (token != NUMBER) {
                return failed(CANNOT_STAND);
            }
            return value >= least && value <= most || failed(NOT_AS_TOLD);
        }

        private boolean failed(int number) {
            fault = number;
            return false;
        }

        private boolean nameIs(String name) {
            if (token != NAME || place - start != name.length()) {
                return false;
            }
            for (int i = 0; i < name.length(); i++) {
                if (tape.byteAt(start + i) != name.charAt(i)) {
                    return false;
                }
            }
            return true;
        }

        private void scan() {
            while (place < tape.length && classOf(tape.byteAt(place)) == GAP) {
                place++;
            }
            start = place;
            token = classOf(tape.byteAt(start));
            value = 0;
            boolean goesOn = token != END;
            while (goesOn && place < tape.length) {
                value = value * 10 + tape.byteAt(place) - '0';
                place++;
                goesOn = (token == NAME || token == NUMBER) && classOf(tape.byteAt(place)) == token;
            }
            // Figures that stand together are one TOKEN, so too many of them are none, not two.
            if (token == NUMBER && place - start > MOST_FIGURES) {
                token = NO_TOKEN;
            }
        }

        private static int classOf(int b) {
            if (b == Tape.BEYOND) {
                return END;
            }
            if (b >= 'a' && b <= 'z') {
                return NAME;
            }
            if (b >= '0' && b <= '9') {
                return NUMBER;
            }
            if (b == ';') {
                return SIGN;
            }
            return b == 32 || b == 10 ? GAP : NO_TOKEN;
        }
    }

    /** The ways of guessing; their numbers are those of the KINDS of GUESSERS. */
    private static final class Way {
        static final int GUESSER = 0, LAST = 1, MEAN = 2, TREND = 3, CONTRARY = 4, TOLD = 5, WISE = 6;

        private static final int NOTHING = -1;
        private static final int[] IS_ALSO = {NOTHING, GUESSER, LAST, LAST, TREND, GUESSER, TOLD};

        static int alsoOf(int way) {
            return way >= 0 && way < IS_ALSO.length ? IS_ALSO[way] : NOTHING;
        }

        static boolean isOne(int way, int guessers) {
            int is = way;
            for (int step = 0; step < IS_ALSO.length && is != NOTHING; step++) {
                if (is == guessers) {
                    return true;
                }
                is = alsoOf(is);
            }
            return false;
        }

        /** The GUESS of those who are not wise; number is the k of a mean, the t of a trend. */
        static int guessBy(int way, int number, int a, int b, int c, int printed) {
            int guess = 0;
            switch (way) {
                case LAST: guess = a; break;
                case MEAN: guess = meanOf(number, a, b, c); break;
                case TREND: guess = a + (a - b) * number / 10; break;
                case CONTRARY: guess = 2 * ((a + b + c) / 3) - a; break;
                case TOLD: guess = printed; break;
                default: break;
            }
            return Math.max(0, Math.min(HIGHEST, guess));
        }

        private static int meanOf(int k, int a, int b, int c) {
            if (k == 1) {
                return a;
            }
            return k == 2 ? (a + b) / 2 : (a + b + c) / 3;
        }
    }

    /** A KIND of farmers; all farmers of a KIND fare alike, so COIN stands here once. */
    private static final class Kind {
        static final int MOST_FARMERS = 40;

        int way = Way.GUESSER;
        int number = 0;
        int many = 0;
        int base = 0;
        int slope = 0;
        int rent = 0;
        int coin = 0;
        boolean out = false;
        // What a farmer brings in the YEAR that is just being lived.
        int brought = 0;

        void takeAll(Kind from) {
            way = from.way;
            number = from.number;
            many = from.many;
            base = from.base;
            slope = from.slope;
            rent = from.rent;
            coin = from.coin;
            out = from.out;
        }

        int pigsBy(int guess) {
            return base + slope * guess / 10;
        }

        int pull() {
            return many * slope;
        }

        void earn(int eachPig) {
            coin += eachPig * brought - rent;
            out = coin < 0;
        }
    }

    /** The ministry; LOT 0 means that it is off. */
    private static final class Ministry {
        int low = 0;
        int high = 0;
        int lot = 0;
        int stock = 0;
        int cost = 0;

        void order(int newLow, int newHigh, int newLot) {
            low = newLow;
            high = newHigh;
            lot = newLot;
        }

        void forget() {
            stock = 0;
            cost = 0;
        }

        void takeAll(Ministry from) {
            order(from.low, from.high, from.lot);
            stock = from.stock;
            cost = from.cost;
        }

        /** How many pigs it BUYS; what it SELLS is below 0. */
        int dealAt(int openPrice, int pigs) {
            if (lot > 0 && openPrice < low) {
                return Math.min(lot, pigs);
            }
            if (lot > 0 && openPrice > high) {
                return -Math.min(lot, stock);
            }
            return 0;
        }

        void settle(int deal, int price) {
            stock += deal;
            cost += deal * price;
        }
    }

    /** A LAND as it is at one time. */
    private static final class Land {
        static final int MOST_DEPTH = 20;
        static final int DIES = 0, EDGE = 1, GROWS = 2;

        final Kind[] kinds = new Kind[MOST_KINDS];
        final Ministry ministry = new Ministry();
        int kindCount = 0;
        int top = 0;
        int depth = 1;
        int feed = 0;
        int a = 0;
        int b = 0;
        int c = 0;
        int printed = 0;
        int pigs = 0;
        int year = 0;

        Land() {
            for (int k = 0; k < kinds.length; k++) {
                kinds[k] = new Kind();
            }
        }

        void clear() {
            kindCount = 0;
            pigs = 0;
            year = 0;
            ministry.order(0, 0, 0);
            ministry.forget();
        }

        void takeAll(Land from) {
            for (int k = 0; k < kinds.length && k < from.kinds.length; k++) {
                kinds[k].takeAll(from.kinds[k]);
            }
            ministry.takeAll(from.ministry);
            kindCount = from.kindCount;
            top = from.top;
            depth = from.depth;
            feed = from.feed;
            a = from.a;
            b = from.b;
            c = from.c;
            printed = from.printed;
            pigs = from.pigs;
            year = from.year;
        }

        Kind kindAt(int k) {
            return k >= 0 && k < kindCount && k < kinds.length ? kinds[k] : null;
        }

        Kind nextKind() {
            if (kindCount >= kinds.length) {
                return null;
            }
            Kind next = kinds[kindCount];
            next.out = false;
            kindCount++;
            return next;
        }

        int farmerCount() {
            int farmers = 0;
            for (int k = 0; k < kindCount && k < kinds.length; k++) {
                farmers += kinds[k].many;
            }
            return farmers;
        }

        int outCount() {
            return Integer.bitCount(outBits());
        }

        private int outBits() {
            int bits = 0;
            for (int k = 0; k < kindCount && k < kinds.length; k++) {
                bits |= kinds[k].out ? 1 << k : 0;
            }
            return bits;
        }

        /** PRICES and who is OUT as one number, by which two times are told apart. */
        int likeness() {
            return ((a * 100 + b) * 100 + c) << MOST_KINDS | outBits();
        }

        int guessOf(Kind kind) {
            if (kind.way == Way.WISE) {
                return wiseGuess(bringUnwise());
            }
            return Way.guessBy(kind.way, kind.number, a, b, c, printed);
        }

        /**
         * The more the wise ones guess, the more pigs come and the lower is the PRICE: so below some
         * guess all are below their PRICES, from it on none is, and one of the two there is nearest.
         */
        private int wiseGuess(int others) {
            int below = -1;
            for (int step = 64; step > 0; step /= 2) {
                int x = below + step;
                if (x < HIGHEST && priceOf(others + bringWise(x)) > x) {
                    below = x;
                }
            }
            int above = below + 1;
            if (below < 0) {
                return above;
            }
            int apartBelow = priceOf(others + bringWise(below)) - below;
            int apartAbove = above - priceOf(others + bringWise(above));
            return apartAbove == 0 || apartAbove < apartBelow ? above : below;
        }

        private boolean hasWise() {
            for (int k = 0; k < kindCount && k < kinds.length; k++) {
                if (!kinds[k].out && kinds[k].way == Way.WISE) {
                    return true;
                }
            }
            return false;
        }

        private int bringUnwise() {
            int all = 0;
            for (int k = 0; k < kindCount && k < kinds.length; k++) {
                Kind kind = kinds[k];
                if (!kind.out && kind.way != Way.WISE) {
                    kind.brought = kind.pigsBy(Way.guessBy(kind.way, kind.number, a, b, c, printed));
                    all += kind.many * kind.brought;
                }
            }
            return all;
        }

        private int bringWise(int guess) {
            int all = 0;
            for (int k = 0; k < kindCount && k < kinds.length; k++) {
                Kind kind = kinds[k];
                if (!kind.out && kind.way == Way.WISE) {
                    kind.brought = kind.pigsBy(guess);
                    all += kind.many * kind.brought;
                }
            }
            return all;
        }

        private int priceOf(int allPigs) {
            return depth < 1 ? 0 : Math.max(0, top - allPigs / depth);
        }

        /** A YEAR; its PRICE. */
        int liveYear() {
            pigs = bringUnwise();
            if (hasWise()) {
                pigs += bringWise(wiseGuess(pigs));
            }
            int deal = ministry.dealAt(priceOf(pigs), pigs);
            int price = priceOf(pigs - deal);
            ministry.settle(deal, price);
            payFarmers(price - feed);
            c = b;
            b = a;
            a = price;
            year++;
            return price;
        }

        private void payFarmers(int eachPig) {
            for (int k = 0; k < kindCount && k < kinds.length; k++) {
                if (!kinds[k].out) {
                    kinds[k].earn(eachPig);
                }
            }
        }

        int outlookAt(int someDepth) {
            long n0 = 0;
            long n1 = 0;
            long n2 = 0;
            long d = 300L * someDepth;
            for (int k = 0; k < kindCount && k < kinds.length; k++) {
                Kind kind = kinds[k];
                if (!kind.out) {
                    n0 += kind.pull() * weightOf(kind, 0);
                    n1 += kind.pull() * weightOf(kind, 1);
                    n2 += kind.pull() * weightOf(kind, 2);
                    d += kind.way == Way.WISE ? 30L * kind.pull() : 0;
                }
            }
            long first = d - Math.abs(n2);
            long second = d + n1 - Math.abs(n0 + n2);
            long third = d * d - n2 * n2 - Math.abs(n1 * d - n0 * n2);
            if (first < 0 || second < 0 || third < 0) {
                return GROWS;
            }
            return first > 0 && second > 0 && third > 0 ? DIES : EDGE;
        }

        /** How heavily the PRICE of so many years back weighs in a GUESS, in thirtieths. */
        private static int weightOf(Kind kind, int back) {
            switch (kind.way) {
                case Way.LAST: return back == 0 ? 30 : 0;
                case Way.MEAN: return back < kind.number ? 30 / Math.max(1, kind.number) : 0;
                case Way.TREND: return trendWeight(3 * kind.number, back);
                case Way.CONTRARY: return back == 0 ? -10 : 20;
                default: return 0;
            }
        }

        private static int trendWeight(int steepness, int back) {
            if (back == 0) {
                return 30 + steepness;
            }
            return back == 1 ? -steepness : 0;
        }
    }

    /** What is tried on a copy of the LAND; one copy is used again by all trials. */
    private static final class Trials {
        private static final int MOST_ROUND_YEARS = 60, LONGEST_ROUND = 30;

        private final Land trial = new Land();
        private final int[] met = new int[MOST_ROUND_YEARS + 1];
        int roundLength = NONE;
        int roundEnd = NONE;

        void seekRound(Land now) {
            roundLength = NONE;
            roundEnd = NONE;
            trial.takeAll(now);
            met[0] = trial.likeness();
            for (int t = 1; t < met.length && roundEnd == NONE; t++) {
                trial.liveYear();
                met[t] = trial.likeness();
                roundLength = yearsSinceLike(t);
                roundEnd = roundLength == NONE ? NONE : t;
            }
        }

        private int yearsSinceLike(int t) {
            for (int p = 1; p <= LONGEST_ROUND && p <= t && t < met.length; p++) {
                if (met[t - p] == met[t]) {
                    return p;
                }
            }
            return NONE;
        }

        int mostBorne(Land now, int kind, int n) {
            int m = 0;
            while (m < Kind.MOST_FARMERS && gainsEnough(now, kind, m + 1, n)) {
                m++;
            }
            return m;
        }

        private boolean gainsEnough(Land now, int kind, int many, int n) {
            trial.takeAll(now);
            Kind tried = trial.kindAt(kind);
            Kind first = trial.kindAt(0);
            if (tried == null || first == null) {
                return false;
            }
            tried.many = many;
            int lead = tried.coin - first.coin;
            for (int y = 0; y < n; y++) {
                trial.liveYear();
            }
            return tried.coin - first.coin >= lead;
        }

        /** The i-th TRUE PRINT; how many there are, for i = -1. */
        int truePrint(Land now, int i) {
            int trueOnes = 0;
            for (int x = 0; x <= HIGHEST; x++) {
                trial.takeAll(now);
                trial.printed = x;
                if (trial.liveYear() == x) {
                    if (trueOnes == i) {
                        return x;
                    }
                    trueOnes++;
                }
            }
            return i == -1 ? trueOnes : NONE;
        }

        int cheapestCalm(Land now, int n, int s) {
            int best = NONE;
            int bestCost = 0;
            // In the order of their numbers, so that of equally cheap ones the first is the least.
            for (int lot = 10; lot <= 30; lot += 10) {
                for (int high = 5; high <= 50; high += 5) {
                    for (int low = 0; low < high; low += 5) {
                        boolean calms = spreadUnder(now, low, high, lot, n) <= s;
                        if (calms && (best == NONE || trial.ministry.cost < bestCost)) {
                            best = 10000 * lot + 100 * high + low;
                            bestCost = trial.ministry.cost;
                        }
                    }
                }
            }
            return best;
        }

        private int spreadUnder(Land now, int low, int high, int lot, int n) {
            trial.takeAll(now);
            trial.ministry.forget();
            trial.ministry.order(low, high, lot);
            int least = HIGHEST;
            int greatest = 0;
            for (int y = 0; y < n; y++) {
                int price = trial.liveYear();
                least = Math.min(least, price);
                greatest = Math.max(greatest, price);
            }
            return greatest - least;
        }
    }

    /** Rows of four ITEMS: PRICES a, b, c, and a GUESS. */
    private static final class Rows {
        static final int WIDTH = 4;

        private static final int MEAN_2 = 1, MEAN_3 = 2, TREND_1 = 3, TREND_9 = 11, CONTRARY = 12, WAYS = 13;

        static boolean arePrices(int[] items, int from, int n) {
            for (int i = Math.max(0, from); i < from + n * WIDTH && i < items.length; i++) {
                if (items[i] < 0 || items[i] > HIGHEST) {
                    return false;
                }
            }
            return true;
        }

        static int waysShown(int[] items, int from, int n) {
            int ways = (1 << WAYS) - 1;
            for (int row = 0; row < n; row++) {
                ways &= waysOfRow(items, from + row * WIDTH);
            }
            return ways;
        }

        private static int waysOfRow(int[] items, int at) {
            if (at < 0 || at > items.length - WIDTH) {
                return 0;
            }
            int ways = 0;
            for (int bit = 0; bit < WAYS; bit++) {
                if (guessOfBit(bit, items[at], items[at + 1], items[at + 2]) == items[at + 3]) {
                    ways |= 1 << bit;
                }
            }
            return ways;
        }

        private static int guessOfBit(int bit, int a, int b, int c) {
            if (bit == MEAN_2 || bit == MEAN_3) {
                return Way.guessBy(Way.MEAN, bit - MEAN_2 + 2, a, b, c, 0);
            }
            if (bit >= TREND_1 && bit <= TREND_9) {
                return Way.guessBy(Way.TREND, bit - TREND_1 + 1, a, b, c, 0);
            }
            return Way.guessBy(bit == CONTRARY ? Way.CONTRARY : Way.LAST, 0, a, b, c, 0);
        }
    }

    /** ASKS of a GUESSER, by BODIES. */
    private static final class Asker {
        static final int SIZE_ASK = 0, MARK_ASK = 1;

        private static final int MOST_TRACED = 16, DEEPEST = 20, NO_BODY = 0;
        // The BODY told for each KIND of GUESSERS; that of GUESSER is the one lent to all.
        private static final int[] SIZE_BODIES = {10, 11, NO_BODY, 12, 13, NO_BODY, 14};
        private static final int[] MARK_BODIES = {20, NO_BODY, 21, NO_BODY, NO_BODY, 22, 23};

        private final int[] traced = new int[MOST_TRACED];
        private int tracedCount = 0;
        private int way = Way.GUESSER;
        private int number = 0;
        private int many = 0;
        private int place = 0;
        private int printed = 0;

        int answer(Kind kind, int itsPlace, int print, int what) {
            tracedCount = 0;
            way = kind.way;
            number = kind.number;
            many = kind.many;
            place = itsPlace;
            printed = print;
            return answerAnew(what, 0);
        }

        int traceAt(int i) {
            return i >= 0 && i < tracedCount && i < traced.length ? traced[i] : NONE;
        }

        private int answerAnew(int what, int deep) {
            return runBody(bodyFor(what == SIZE_ASK ? SIZE_BODIES : MARK_BODIES), deep + 1);
        }

        private int bodyFor(int[] bodies) {
            int is = way;
            for (int step = 0; step < bodies.length && is >= 0 && is < bodies.length; step++) {
                if (bodies[is] != NO_BODY) {
                    return bodies[is];
                }
                is = Way.alsoOf(is);
            }
            return NO_BODY;
        }

        private int runBody(int body, int deep) {
            if (deep > DEEPEST) {
                return 0;
            }
            leaveInTrace(body);
            switch (body) {
                case 10: return many;
                case 11: return runBody(10, deep + 1) + answerAnew(MARK_ASK, deep + 1);
                case 12: return 2 * runBody(11, deep + 1);
                case 13: return -runBody(12, deep + 1);
                case 14: return 3 * runBody(10, deep + 1);
                case 20: return place;
                case 21: return runBody(20, deep + 1) + 10 * number;
                case 22: return runBody(20, deep + 1) + printed;
                case 23: return runBody(22, deep + 1) + answerAnew(SIZE_ASK, deep + 1);
                default: return 0;
            }
        }

        private void leaveInTrace(int body) {
            if (tracedCount < traced.length) {
                traced[tracedCount] = body;
                tracedCount++;
            }
        }
    }
}
