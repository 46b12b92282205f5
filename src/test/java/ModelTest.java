import java.util.Random;

/** Long random runs of calls (fixed seeds) on PigRounds and on the Model; each answer must be the same. */
public final class ModelTest {
    private static final int RUNS = 600, CALLS = 512;
    private static final String[] WAYS = {"last", "mean 1", "mean 2", "mean 3", "trend 0", "trend 4", "trend 9",
        "contrary", "told", "wise"};

    private final Random random;
    private final PigRounds x = new PigRounds();
    private final Model model = new Model();
    private final String run;
    private int calls = 0;

    private ModelTest(int seed) {
        random = new Random(seed);
        run = "run " + seed;
    }

    public static void main(String[] args) {
        for (int seed = 0; seed < RUNS; seed++) {
            new ModelTest(seed).play();
        }
        Due.end();
    }

    private void play() {
        while (calls < CALLS) {
            int dice = random.nextInt(100);
            if (dice < 4) {
                feedLand();
            } else if (dice < 40) {
                sheetCall();
            } else if (dice < 75) {
                landCall();
            } else if (dice < 85) {
                roundCall();
            } else {
                askedCall();
            }
        }
    }

    private void same(String call, int got, int want) {
        calls++;
        Due.due(run + " call " + calls + ": " + call, got, want);
    }

    /** Mostly from least to most, now and then beside it or far off. */
    private int about(int least, int most) {
        int dice = random.nextInt(40);
        if (dice == 0) {
            return least - 1;
        }
        if (dice == 1) {
            return most + 1;
        }
        if (dice == 2) {
            return random.nextBoolean() ? Integer.MIN_VALUE : Integer.MAX_VALUE;
        }
        if (dice == 3) {
            return random.nextBoolean() ? least : most;
        }
        return least + random.nextInt(most - least + 1);
    }

    private void feedLand() {
        String text = landText();
        if (random.nextInt(4) == 0) {
            text = spoiled(text);
        }
        for (int i = 0; i < text.length();) {
            int n = Math.min(text.length() - i, 1 + random.nextInt(8));
            n = Math.max(n, Math.min(8, text.length() - i) - random.nextInt(2));
            n = Math.max(n, 1);
            long w = random.nextLong();
            for (int j = 0; j < n; j++) {
                w = w << 8 | text.charAt(i + j) & 255;
            }
            same("feed " + w + " " + n, x.feed(w, n), model.feed(w, n));
            i += n;
        }
        same("land of " + text, x.land(), model.land());
        same("fault", x.fault(), model.fault());
    }

    private String landText() {
        StringBuilder s = new StringBuilder();
        s.append("market ").append(1 + random.nextInt(99)).append(' ').append(1 + random.nextInt(20)).append(' ')
            .append(random.nextInt(21)).append(";start ").append(random.nextInt(100)).append(' ')
            .append(random.nextInt(100)).append(' ').append(random.nextInt(100)).append(';');
        int kinds = random.nextInt(20) == 0 ? 6 : random.nextInt(6);
        boolean few = random.nextBoolean();
        for (int k = 0; k < kinds; k++) {
            s.append(random.nextInt(3) == 0 ? "\n" : "").append("kind ").append(WAYS[random.nextInt(WAYS.length)])
                .append(' ').append(1 + random.nextInt(few ? 6 : 40)).append(' ').append(random.nextInt(10)).append(' ')
                .append(random.nextInt(21)).append(' ').append(random.nextInt(random.nextBoolean() ? 5 : 100))
                .append(' ').append(random.nextInt(1000)).append(';');
        }
        return s.toString();
    }

    private String spoiled(String text) {
        StringBuilder s = new StringBuilder(text);
        int times = 1 + random.nextInt(2);
        for (int i = 0; i < times && s.length() > 0; i++) {
            int at = random.nextInt(s.length());
            char c = " \n;0123456789azkM\t\u00e9-".charAt(random.nextInt(20));
            switch (random.nextInt(4)) {
                case 0: s.setCharAt(at, c); break;
                case 1: s.insert(at, c); break;
                case 2: s.deleteCharAt(at); break;
                default: s.setLength(random.nextInt(3) == 0 ? at : s.length()); break;
            }
        }
        return s.toString();
    }

    private void sheetCall() {
        int a = about(0, 3);
        int b = about(0, 3);
        int i = about(0, 30);
        int j = about(0, 30);
        switch (random.nextInt(12)) {
            case 0: {
                int lane = about(0, 2);
                int n = random.nextBoolean() ? about(0, 60) : 40;
                same("sheet " + a + " " + lane + " " + n, x.sheet(a, lane, n), model.sheet(a, lane, n));
                break;
            }
            case 1: {
                int n = about(0, 20);
                same("copy " + a + " " + i + " " + b + " " + j + " " + n, x.copy(a, i, b, j, n), model.copy(a, i, b, j, n));
                break;
            }
            case 2:
                if (random.nextInt(4) == 0) {
                    same("drop " + a, x.drop(a), model.drop(a));
                }
                break;
            case 3: case 4: case 5: {
                int n = random.nextBoolean() ? about(1, 15) : 1;
                same("shown " + a + " " + i + " " + n, x.shown(a, i, n), model.shown(a, i, n));
                break;
            }
            case 6:
                same("status", x.status(), model.status());
                break;
            default: {
                int v = random.nextInt(30) == 0 ? random.nextInt() : random.nextInt(6) * random.nextInt(20);
                same("set " + a + " " + i + " " + v, x.set(a, i, v), model.set(a, i, v));
                break;
            }
        }
    }

    private void landCall() {
        switch (random.nextInt(6)) {
            case 0: {
                int price = about(0, 99);
                same("print " + price, x.print(price), model.print(price));
                break;
            }
            case 1: {
                int low = about(0, 99);
                int high = random.nextBoolean() ? Math.max(low, about(0, 99)) : about(0, 99);
                int lot = random.nextInt(4) == 0 ? 0 : about(1, 99);
                same("ministry " + low + " " + high + " " + lot, x.ministry(low, high, lot), model.ministry(low, high, lot));
                break;
            }
            case 2: {
                int n = random.nextInt(8) == 0 ? about(1, 100) : 1 + random.nextInt(3);
                same("years " + n, x.years(n), model.years(n));
                break;
            }
            case 3: {
                int what = about(0, 6);
                same("now " + what, x.now(what), model.now(what));
                break;
            }
            default: {
                int kind = about(0, 4);
                int what = about(0, 7);
                same("farmers " + kind + " " + what, x.farmers(kind, what), model.farmers(kind, what));
                break;
            }
        }
    }

    private void roundCall() {
        switch (random.nextInt(6)) {
            case 0:
                same("dies", x.dies(), model.dies());
                break;
            case 1:
                same("steep", x.steep(), model.steep());
                break;
            case 2: {
                int what = about(0, 1);
                same("round " + what, x.round(what), model.round(what));
                break;
            }
            case 3: {
                int i = random.nextInt(3) == 0 ? about(-1, 5) : random.nextInt(2) - 1;
                same("prints " + i, x.prints(i), model.prints(i));
                break;
            }
            case 4: {
                int kind = about(0, 4);
                int n = random.nextInt(4) == 0 ? about(1, 30) : 1 + random.nextInt(4);
                same("bears " + kind + " " + n, x.bears(kind, n), model.bears(kind, n));
                break;
            }
            default: {
                int n = random.nextInt(4) == 0 ? about(1, 20) : 1 + random.nextInt(4);
                int s = about(0, 99);
                if (random.nextInt(3) == 0) {
                    same("calm " + n + " " + s, x.calm(n, s), model.calm(n, s));
                }
                break;
            }
        }
    }

    private void askedCall() {
        int kind = about(0, 4);
        switch (random.nextInt(7)) {
            case 0:
                same("kind " + kind, x.kind(kind), model.kind(kind));
                break;
            case 1: {
                int guessers = about(0, 6);
                same("as " + kind + " " + guessers, x.as(kind, guessers), model.as(kind, guessers));
                break;
            }
            case 2: case 3: {
                int what = about(0, 1);
                same("ask " + kind + " " + what, x.ask(kind, what), model.ask(kind, what));
                break;
            }
            case 4: {
                int i = about(0, 5);
                same("trace " + i, x.trace(i), model.trace(i));
                break;
            }
            case 5: {
                int what = about(0, 4);
                same("count " + what, x.count(what), model.count(what));
                break;
            }
            default:
                same("status", x.status(), model.status());
                break;
        }
    }
}
