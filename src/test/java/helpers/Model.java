import java.util.ArrayList;
import java.util.Arrays;
import java.util.List;
import java.util.TreeSet;

/** What the document says, in the slowest and plainest way, to lay beside PigRounds. */
final class Model {
    static final int NONE = -1000000, BAD = -1000001, STATE = -1000002, FULL = -1000003;

    static final class Kind {
        String way;
        int number, many, base, slope, rent, coin;
        boolean out;

        Kind same() {
            Kind k = new Kind();
            k.way = way;
            k.number = number;
            k.many = many;
            k.base = base;
            k.slope = slope;
            k.rent = rent;
            k.coin = coin;
            k.out = out;
            return k;
        }
    }

    static final class Land {
        int top, depth, feed, a, b, c, print, year, pigs, low, high, lot, stock, cost;
        List<Kind> kinds = new ArrayList<>();

        Land same() {
            Land l = new Land();
            l.top = top;
            l.depth = depth;
            l.feed = feed;
            l.a = a;
            l.b = b;
            l.c = c;
            l.print = print;
            l.year = year;
            l.pigs = pigs;
            l.low = low;
            l.high = high;
            l.lot = lot;
            l.stock = stock;
            l.cost = cost;
            for (Kind k : kinds) {
                l.kinds.add(k.same());
            }
            return l;
        }

        int price(int p) {
            return Math.max(0, top - p / depth);
        }

        int guess(Kind k) {
            int g;
            if (k.way.equals("wise")) {
                int best = -1;
                int apart = 0;
                for (int x = 0; x <= 99; x++) {
                    int d = Math.abs(price(pigsIfWise(x)) - x);
                    if (best < 0 || d < apart) {
                        best = x;
                        apart = d;
                    }
                }
                return best;
            } else if (k.way.equals("last")) {
                g = a;
            } else if (k.way.equals("mean")) {
                g = (a + (k.number > 1 ? b : 0) + (k.number > 2 ? c : 0)) / k.number;
            } else if (k.way.equals("trend")) {
                g = a + (a - b) * k.number / 10;
            } else if (k.way.equals("contrary")) {
                g = (a + b + c) / 3 * 2 - a;
            } else {
                g = print;
            }
            return g < 0 ? 0 : g > 99 ? 99 : g;
        }

        int pigsIfWise(int x) {
            int sum = 0;
            for (Kind k : kinds) {
                if (!k.out) {
                    sum += k.many * brings(k, k.way.equals("wise") ? x : guess(k));
                }
            }
            return sum;
        }

        static int brings(Kind k, int g) {
            return k.base + k.slope * g / 10;
        }

        void live() {
            int[] each = new int[kinds.size()];
            int sum = 0;
            for (int i = 0; i < each.length; i++) {
                Kind k = kinds.get(i);
                each[i] = brings(k, guess(k));
                sum += k.out ? 0 : k.many * each[i];
            }
            pigs = sum;
            int open = price(sum);
            int paid = 0;
            if (lot > 0 && open < low) {
                int buys = Math.min(lot, sum);
                sum -= buys;
                stock += buys;
                paid = buys;
            } else if (lot > 0 && open > high) {
                int sells = Math.min(lot, stock);
                sum += sells;
                stock -= sells;
                paid = -sells;
            }
            int price = price(sum);
            cost += paid * price;
            for (int i = 0; i < each.length; i++) {
                Kind k = kinds.get(i);
                if (!k.out) {
                    k.coin += each[i] * (price - feed);
                    k.coin -= k.rent;
                    k.out = k.coin < 0;
                }
            }
            c = b;
            b = a;
            a = price;
            year++;
        }

        String state() {
            StringBuilder s = new StringBuilder();
            s.append(a).append(' ').append(b).append(' ').append(c);
            for (Kind k : kinds) {
                s.append(k.out ? " out" : " in");
            }
            return s.toString();
        }

        int dies(int depth) {
            long n0 = 0, n1 = 0, n2 = 0, d = 300L * depth;
            for (Kind k : kinds) {
                long pull = k.out ? 0 : (long) k.many * k.slope;
                if (k.way.equals("last")) {
                    n0 += 30 * pull;
                } else if (k.way.equals("mean")) {
                    n0 += 30 / k.number * pull;
                    n1 += k.number > 1 ? 30 / k.number * pull : 0;
                    n2 += k.number > 2 ? 30 / k.number * pull : 0;
                } else if (k.way.equals("trend")) {
                    n0 += (30 + 3 * k.number) * pull;
                    n1 -= 3 * k.number * pull;
                } else if (k.way.equals("contrary")) {
                    n0 -= 10 * pull;
                    n1 += 20 * pull;
                    n2 += 20 * pull;
                } else if (k.way.equals("wise")) {
                    d += 30 * pull;
                }
            }
            long[] is = {Math.abs(n2), Math.abs(n0 + n2), Math.abs(n1 * d - n0 * n2)};
            long[] below = {d, d + n1, d * d - n2 * n2};
            int answer = 0;
            for (int i = 0; i < 3; i++) {
                answer = Math.max(answer, is[i] < below[i] ? 0 : is[i] == below[i] ? 1 : 2);
            }
            return answer;
        }
    }

    private final int[][] sheets = new int[8][];
    private final int[] lanes = new int[8];
    private final StringBuilder tape = new StringBuilder();
    private final List<Integer> trace = new ArrayList<>();
    private Land land = null;
    private int fault = 0;
    private int status = 0;

    private int found(int n) {
        status = n;
        return -1000010 - n;
    }

    private int fine(int answer) {
        status = 0;
        return answer;
    }

    private static boolean in(int v, int least, int most) {
        return v >= least && v <= most;
    }

    int sheet(int s, int lane, int n) {
        if (!in(s, 0, 7) || !in(lane, 0, 2) || n > 60) {
            return BAD;
        }
        if (n < 0) {
            return found(4);
        }
        sheets[s] = new int[n];
        lanes[s] = lane;
        return fine(n);
    }

    int set(int s, int i, int v) {
        if (!in(s, 0, 7)) {
            return BAD;
        }
        if (sheets[s] == null) {
            return found(1);
        }
        if (!in(i, 0, sheets[s].length - 1)) {
            return found(2);
        }
        int shift = new int[] {24, 16, 0}[lanes[s]];
        sheets[s][i] = v << shift >> shift;
        return fine(sheets[s][i]);
    }

    int copy(int a, int i, int b, int j, int n) {
        if (!in(a, 0, 7) || !in(b, 0, 7)) {
            return BAD;
        }
        if (sheets[a] == null || sheets[b] == null) {
            return found(1);
        }
        if (lanes[a] != lanes[b]) {
            return found(5);
        }
        if (i < 0 || j < 0 || n < 0 || (long) i + n > sheets[a].length || (long) j + n > sheets[b].length) {
            return found(2);
        }
        int[] were = sheets[a].clone();
        for (int k = 0; k < n; k++) {
            sheets[b][j + k] = were[i + k];
        }
        return fine(n);
    }

    int drop(int s) {
        if (!in(s, 0, 7)) {
            return BAD;
        }
        if (sheets[s] == null) {
            return found(1);
        }
        int n = sheets[s].length;
        sheets[s] = null;
        return fine(n);
    }

    int feed(long w, int n) {
        if (!in(n, 1, 8)) {
            return BAD;
        }
        if (tape.length() + n > 400) {
            return FULL;
        }
        for (int i = n - 1; i >= 0; i--) {
            tape.append((char) (w >>> 8 * i & 255));
        }
        return tape.length();
    }

    /** All TOKENS of the text with their places, ahead of reading; the end is the last. */
    private static List<String> tokens(String text, List<Integer> places) {
        List<String> all = new ArrayList<>();
        int i = 0;
        while (i < text.length()) {
            char ch = text.charAt(i);
            int j = i + 1;
            String run = ch >= 'a' && ch <= 'z' ? "[a-z]" : ch >= '0' && ch <= '9' ? "[0-9]" : null;
            while (run != null && j < text.length() && text.substring(j, j + 1).matches(run)) {
                j++;
            }
            if (ch != ' ' && ch != '\n') {
                all.add(text.substring(i, j));
                places.add(i);
            }
            i = j;
        }
        all.add("");
        places.add(text.length());
        return all;
    }

    private static final class Fault extends RuntimeException {
        final int at, number;

        Fault(int at, int number) {
            this.at = at;
            this.number = number;
        }
    }

    private static int number(String token, int at, int least, int most) {
        if (!token.matches("[0-9]{1,3}")) {
            throw new Fault(at, 1);
        }
        int v = Integer.parseInt(token);
        if (!in(v, least, most)) {
            throw new Fault(at, 2);
        }
        return v;
    }

    private static int word(String token, int at, String due) {
        if (!token.equals(due)) {
            throw new Fault(at, 1);
        }
        return at + 1;
    }

    private static Land read(List<String> t) {
        Land l = new Land();
        int at = word(t.get(0), 0, "market");
        l.top = number(t.get(at), at++, 1, 99);
        l.depth = number(t.get(at), at++, 1, 20);
        l.feed = number(t.get(at), at++, 0, 20);
        at = word(t.get(at), at, ";");
        at = word(t.get(at), at, "start");
        l.a = number(t.get(at), at++, 0, 99);
        l.b = number(t.get(at), at++, 0, 99);
        l.c = number(t.get(at), at++, 0, 99);
        l.print = l.a;
        at = word(t.get(at), at, ";");
        while (!t.get(at).isEmpty()) {
            at = word(t.get(at), at, "kind");
            if (l.kinds.size() == 5) {
                throw new Fault(at - 1, 3);
            }
            Kind k = new Kind();
            k.way = t.get(at);
            if (!Arrays.asList("last", "mean", "trend", "contrary", "told", "wise").contains(k.way)) {
                throw new Fault(at, 1);
            }
            at++;
            if (k.way.equals("mean")) {
                k.number = number(t.get(at), at++, 1, 3);
            } else if (k.way.equals("trend")) {
                k.number = number(t.get(at), at++, 0, 9);
            }
            k.many = number(t.get(at), at++, 1, 40);
            k.base = number(t.get(at), at++, 0, 9);
            k.slope = number(t.get(at), at++, 0, 20);
            k.rent = number(t.get(at), at++, 0, 99);
            k.coin = number(t.get(at), at++, 0, 999);
            at = word(t.get(at), at, ";");
            l.kinds.add(k);
        }
        return l;
    }

    int land() {
        List<Integer> places = new ArrayList<>();
        List<String> tokens = tokens(tape.toString(), places);
        tape.setLength(0);
        try {
            land = read(tokens);
            return land.kinds.size();
        } catch (Fault f) {
            fault = f.number;
            return -1000100 - places.get(f.at);
        }
    }

    int fault() {
        return fault;
    }

    private Kind kindOf(int k) {
        return land == null || !in(k, 0, land.kinds.size() - 1) ? null : land.kinds.get(k);
    }

    int farmers(int kind, int what) {
        Kind k = kindOf(kind);
        if (k == null || !in(what, 0, 7)) {
            return BAD;
        }
        int g = land.guess(k);
        return new int[] {k.many, k.base, k.slope, k.rent, k.coin, k.out ? 1 : 0, g, Land.brings(k, g)}[what];
    }

    int print(int price) {
        if (!in(price, 0, 99)) {
            return BAD;
        }
        if (land == null) {
            return STATE;
        }
        int was = land.print;
        land.print = price;
        return was;
    }

    int ministry(int low, int high, int lot) {
        if (!in(low, 0, 99) || !in(high, low, 99) || !in(lot, 0, 99)) {
            return BAD;
        }
        if (land == null) {
            return STATE;
        }
        land.low = low;
        land.high = high;
        land.lot = lot;
        return 1;
    }

    int years(int n) {
        if (!in(n, 1, 100)) {
            return BAD;
        }
        if (land == null) {
            return STATE;
        }
        for (int i = 0; i < n; i++) {
            land.live();
        }
        return land.a;
    }

    int now(int what) {
        if (!in(what, 0, 6)) {
            return BAD;
        }
        if (land == null) {
            return STATE;
        }
        return new int[] {land.a, land.b, land.c, land.pigs, land.stock, land.cost, land.year}[what];
    }

    int dies() {
        return land == null ? STATE : land.dies(land.depth);
    }

    int steep() {
        if (land == null) {
            return STATE;
        }
        for (int depth = 1; depth <= 20; depth++) {
            if (land.dies(depth) == 0) {
                return depth;
            }
        }
        return NONE;
    }

    int round(int what) {
        if (!in(what, 0, 1)) {
            return BAD;
        }
        if (land == null) {
            return STATE;
        }
        List<String> states = new ArrayList<>();
        Land l = land.same();
        states.add(l.state());
        for (int t = 1; t <= 60; t++) {
            l.live();
            String state = l.state();
            int back = states.lastIndexOf(state);
            if (back >= 0 && t - back <= 30) {
                return what == 0 ? t - back : t;
            }
            states.add(state);
        }
        return NONE;
    }

    int bears(int kind, int n) {
        if (kind == 0 || kindOf(kind) == null || !in(n, 1, 30)) {
            return BAD;
        }
        int most = 0;
        for (int m = 1; m <= 40 && most == m - 1; m++) {
            Land l = land.same();
            l.kinds.get(kind).many = m;
            for (int i = 0; i < n; i++) {
                l.live();
            }
            int gain = l.kinds.get(kind).coin - land.kinds.get(kind).coin;
            int gain0 = l.kinds.get(0).coin - land.kinds.get(0).coin;
            if (gain >= gain0) {
                most = m;
            }
        }
        return most;
    }

    int prints(int i) {
        if (i < -1) {
            return BAD;
        }
        if (land == null) {
            return STATE;
        }
        List<Integer> all = new ArrayList<>();
        for (int x = 0; x < 100; x++) {
            Land l = land.same();
            l.print = x;
            l.live();
            if (l.a == x) {
                all.add(x);
            }
        }
        return i == -1 ? all.size() : i < all.size() ? all.get(i) : NONE;
    }

    int calm(int n, int s) {
        if (!in(n, 1, 20) || !in(s, 0, 99)) {
            return BAD;
        }
        if (land == null) {
            return STATE;
        }
        TreeSet<Long> calming = new TreeSet<>();
        for (int low = 0; low <= 45; low += 5) {
            for (int high = low + 5; high <= 50; high += 5) {
                for (int lot = 10; lot <= 30; lot += 10) {
                    Land l = land.same();
                    l.low = low;
                    l.high = high;
                    l.lot = lot;
                    l.stock = 0;
                    l.cost = 0;
                    TreeSet<Integer> prices = new TreeSet<>();
                    for (int i = 0; i < n; i++) {
                        l.live();
                        prices.add(l.a);
                    }
                    if (prices.last() - prices.first() <= s) {
                        calming.add(l.cost * 1000000L + 10000 * lot + 100 * high + low);
                    }
                }
            }
        }
        return calming.isEmpty() ? NONE : (int) Math.floorMod(calming.first(), 1000000L);
    }

    int shown(int s, int i, int n) {
        if (!in(s, 0, 7) || !in(n, 1, 15)) {
            return BAD;
        }
        if (sheets[s] == null) {
            return found(1);
        }
        if (i < 0 || i + 4L * n > sheets[s].length) {
            return found(2);
        }
        int bits = 8191;
        for (int at = i; at < i + 4 * n; at++) {
            if (!in(sheets[s][at], 0, 99)) {
                return BAD;
            }
        }
        String[] ways = {"last", "mean", "mean", "trend", "trend", "trend", "trend", "trend", "trend", "trend",
            "trend", "trend", "contrary"};
        int[] numbers = {0, 2, 3, 1, 2, 3, 4, 5, 6, 7, 8, 9, 0};
        for (int at = i; at < i + 4 * n; at += 4) {
            Land l = new Land();
            l.a = sheets[s][at];
            l.b = sheets[s][at + 1];
            l.c = sheets[s][at + 2];
            for (int w = 0; w < 13; w++) {
                Kind k = new Kind();
                k.way = ways[w];
                k.number = numbers[w];
                if (l.guess(k) != sheets[s][at + 3]) {
                    bits &= ~(1 << w);
                }
            }
        }
        return fine(bits);
    }

    int kind(int kind) {
        Kind k = kindOf(kind);
        return k == null ? BAD : Arrays.asList("", "last", "mean", "trend", "contrary", "told", "wise").indexOf(k.way);
    }

    int as(int kind, int guessers) {
        Kind k = kindOf(kind);
        if (k == null || !in(guessers, 0, 6)) {
            return BAD;
        }
        return CLASSES[guessers].isInstance(guesser(kind)) ? fine(k.many) : found(3);
    }

    int ask(int kind, int what) {
        if (kindOf(kind) == null || !in(what, 0, 1)) {
            return BAD;
        }
        trace.clear();
        return what == 0 ? guesser(kind).size() : guesser(kind).mark();
    }

    int trace(int i) {
        return i >= 0 && i < trace.size() && i < 16 ? trace.get(i) : NONE;
    }

    int count(int what) {
        int n = 0;
        switch (what) {
            case 0:
                for (int[] s : sheets) {
                    n += s == null ? 0 : 1;
                }
                return n;
            case 1:
                return land == null ? 0 : land.kinds.size();
            case 2:
                for (int k = 0; land != null && k < land.kinds.size(); k++) {
                    n += land.kinds.get(k).many;
                }
                return n;
            case 3:
                for (int k = 0; land != null && k < land.kinds.size(); k++) {
                    n += land.kinds.get(k).out ? 1 : 0;
                }
                return n;
            case 4:
                return tape.length();
            default:
                return BAD;
        }
    }

    int status() {
        return status;
    }

    // The KINDS of GUESSERS as Java's own classes, so that Java says which BODY begins.

    private static final Class<?>[] CLASSES = {Guesser.class, Last.class, Mean.class, Trend.class, Contrary.class,
        Told.class, Wise.class};

    private Guesser guesser(int kind) {
        Base g;
        switch (kind(kind)) {
            case 1: g = new Last(); break;
            case 2: g = new Mean(); break;
            case 3: g = new Trend(); break;
            case 4: g = new Contrary(); break;
            case 5: g = new Told(); break;
            default: g = new Wise(); break;
        }
        g.kind = kindOf(kind);
        g.place = kind;
        return (Guesser) g;
    }

    private interface Guesser {
        int many();

        int place();

        void leave(int body);

        default int size() {
            leave(10);
            return many();
        }

        default int mark() {
            leave(20);
            return place();
        }
    }

    private class Base {
        Kind kind;
        int place;

        public int many() {
            return kind.many;
        }

        public int place() {
            return place;
        }

        public void leave(int body) {
            trace.add(body);
        }
    }

    private class Last extends Base implements Guesser {
        public int size() {
            leave(11);
            return Guesser.super.size() + mark();
        }
    }

    private class Mean extends Last {
        public int mark() {
            leave(21);
            return super.mark() + 10 * kind.number;
        }
    }

    private class Trend extends Last {
        public int size() {
            leave(12);
            return super.size() * 2;
        }
    }

    private class Contrary extends Trend {
        public int size() {
            leave(13);
            return -super.size();
        }
    }

    private class Told extends Base implements Guesser {
        public int mark() {
            leave(22);
            return Guesser.super.mark() + land.print;
        }
    }

    private class Wise extends Told {
        public int size() {
            leave(14);
            return super.size() * 3;
        }

        public int mark() {
            leave(23);
            return super.mark() + size();
        }
    }
}
