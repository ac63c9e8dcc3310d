import java.util.Random;

/** Long runs of calls, each answer compared with the model's; seeds are fixed, so every run is the same. */
public final class ModelTest {
    private static final int RUNS = 1500;
    // No run has more than 512 calls: what a longer one answers is free.
    private static final int MOST_CALLS = 500, LONGEST_TEXT = 120;

    private final Random random;
    private final String name;
    private final HeelsIn x = new HeelsIn();
    private final Model m = new Model();
    private int calls = 0;

    private ModelTest(int seed) {
        random = new Random(seed);
        name = "run " + seed;
    }

    public static void main(String[] args) {
        for (int seed = 0; seed < RUNS && Due.allWell(); seed++) {
            new ModelTest(seed).run();
        }
        everyGame();
        Due.end("ModelTest");
    }

    private static void everyGame() {
        HeelsIn x = new HeelsIn();
        Model m = new Model();
        for (int t = 20; t >= 0; t--) {
            for (int state = 0; state < 200; state++) {
                int a = state / 20;
                int b = state / 2 % 10;
                if (state % 450 == 0) {
                    x = new HeelsIn();
                }
                Due.is("game " + a + " " + b + " " + t, x.game(a, b, t, state % 2), m.game(a, b, t, state % 2));
            }
        }
    }

    private void run() {
        while (calls < MOST_CALLS && Due.allWell()) {
            int sort = random.nextInt(100);
            if (calls == 0 || sort < 1 && calls < MOST_CALLS - LONGEST_TEXT) {
                text();
            } else if (sort < 30) {
                go();
            } else if (sort < 50) {
                sheets();
            } else if (sort < 60) {
                foretold();
            } else if (sort < 75) {
                askings();
            } else {
                looks();
            }
        }
    }

    private void is(String call, int got, int want) {
        calls++;
        Due.is(name + " call " + calls + " " + call, got, want);
    }

    /** Mostly from least to most, now and then beside it or anywhere. */
    private int of(int least, int most) {
        int sort = random.nextInt(60);
        if (sort == 0) {
            return random.nextBoolean() ? least - 1 : most + 1;
        }
        if (sort == 1) {
            return random.nextInt();
        }
        return least >= most ? least : least + random.nextInt(most - least + 1);
    }

    private void text() {
        String text = new Texts(random).text();
        if (random.nextInt(3) == 0) {
            text = spoilt(text);
        }
        for (int at = 0; at < text.length();) {
            int n = Math.min(text.length() - at, 1 + random.nextInt(8));
            n = calls > 50 ? Math.min(8, text.length() - at) : n;
            long w = Due.word(text, at, n) | (n < 8 ? random.nextLong() << 8 * n : 0);
            is("feed(" + w + ", " + n + ")", x.feed(w, n), m.feed(w, n));
            at += n;
        }
        is("match() of '" + text + "'", x.match(), m.match());
        is("fault()", x.fault(), m.fault());
    }

    private String spoilt(String text) {
        String signs = " \n;-0179aehlps\tA.\u00ff";
        StringBuilder b = new StringBuilder(text);
        int at = random.nextInt(b.length());
        char sign = signs.charAt(random.nextInt(signs.length()));
        switch (random.nextInt(4)) {
            case 0 -> b.setCharAt(at, sign);
            case 1 -> b.insert(at, sign);
            case 2 -> b.deleteCharAt(at);
            default -> b.setLength(at);
        }
        return b.toString();
    }

    private void go() {
        int sort = random.nextInt(10);
        if (sort == 0) {
            int changed = of(0, 1);
            is("begin(" + changed + ")", x.begin(changed), m.begin(changed));
        } else if (sort < 6) {
            int n = random.nextInt(8) == 0 ? of(1, 100) : of(1, 6);
            is("go(" + n + ")", x.go(n), m.go(n));
        } else {
            int n = of(1, random.nextInt(4) == 0 ? 20 : 4);
            int sheet = of(0, 3);
            int i = of(0, 6);
            is("told(" + sheet + ", " + i + ", " + n + ")", x.told(sheet, i, n), m.told(sheet, i, n));
        }
        for (int what = 0; what < 7; what++) {
            is("pull(" + what + ")", x.pull(what), m.pull(what));
        }
    }

    private void sheets() {
        int a = random.nextInt(3) == 0 ? of(0, 7) : of(0, 3);
        int b = of(0, 3);
        int i = of(0, 20);
        switch (random.nextInt(12)) {
            case 0, 1 -> {
                int n = random.nextInt(3) == 0 ? of(0, 40) : 40;
                int lane = of(0, 2);
                is("sheet(" + a + ", " + lane + ", " + n + ")", x.sheet(a, lane, n), m.sheet(a, lane, n));
            }
            case 2 -> is("drop(" + a + ")", x.drop(a), m.drop(a));
            case 3, 4, 5 -> {
                int j = of(0, 20);
                int n = of(0, 20);
                is("copy(" + a + ", " + i + ", " + b + ", " + j + ", " + n + ")", x.copy(a, i, b, j, n),
                    m.copy(a, i, b, j, n));
            }
            default -> {
                int v = random.nextInt(20) == 0 ? random.nextInt() : random.nextInt(30) == 0 ? 4 : random.nextInt(4);
                is("set(" + b + ", " + i + ", " + v + ")", x.set(b, i, v), m.set(b, i, v));
            }
        }
        is("status()", x.status(), m.status());
    }

    private void foretold() {
        int side = of(0, 1);
        int k = of(0, 1);
        switch (random.nextInt(9)) {
            case 0 -> {
                int n = of(1, 200);
                for (int what = -1; what < 5; what++) {
                    is("three(" + n + ", " + what + ")", x.three(n, what), m.three(n, what));
                }
            }
            case 1 -> {
                int e = random.nextBoolean() ? of(0, 6) : of(0, 50);
                is("together(" + side + ", " + e + ", " + k + ")", x.together(side, e, k), m.together(side, e, k));
            }
            case 2 -> {
                if (random.nextInt(6) == 0) {
                    int place = of(-1, 8);
                    is("stands(" + side + ", " + place + ")", x.stands(side, place), m.stands(side, place));
                }
            }
            case 3 -> {
                int w = random.nextBoolean() ? of(0, 2000) : of(100, 700);
                int n = of(1, 16);
                is("chosen(" + w + ", " + n + ", " + k + ")", x.chosen(w, n, k), m.chosen(w, n, k));
            }
            case 4 -> {
                int a = of(0, 9);
                int b = of(0, 9);
                int t = of(0, 20);
                is("game(" + a + ", " + b + ", " + t + ", " + k + ")", x.game(a, b, t, k), m.game(a, b, t, k));
            }
            case 5 -> {
                int sheet = of(0, 3);
                int i = of(0, 20);
                int n = of(1, random.nextBoolean() ? 20 : 6);
                int h = random.nextInt(3) == 0 ? of(1, 999) : 1 + random.nextInt(2);
                int b = random.nextInt(3) == 0 ? of(Math.min(h, 1998) + 1, 1999) : h + 1 + random.nextInt(3);
                for (int what = -1; what < 4; what++) {
                    is("left(" + sheet + ", " + i + ", " + n + ", " + h + ", " + b + ", " + what + ")",
                        x.left(sheet, i, n, h, b, what), m.left(sheet, i, n, h, b, what));
                }
                is("status()", x.status(), m.status());
            }
            case 6 -> is("read(" + side + ")", x.read(side), m.read(side));
            case 7 -> is("image(" + k + ")", x.image(k), m.image(k));
            default -> {
                is("restore(" + k + ")", x.restore(k), m.restore(k));
                int n = of(1, 5);
                is("go(" + n + ")", x.go(n), m.go(n));
            }
        }
    }

    private void askings() {
        int side = of(0, 1);
        int p = of(0, 4);
        int what = of(0, 1);
        int kind = of(0, 5);
        is("kind(" + side + ", " + p + ")", x.kind(side, p), m.kind(side, p));
        is("as(" + side + ", " + p + ", " + kind + ")", x.as(side, p, kind), m.as(side, p, kind));
        is("status()", x.status(), m.status());
        is("ask(" + side + ", " + p + ", " + what + ")", x.ask(side, p, what), m.ask(side, p, what));
        for (int i = -1; i < 6; i++) {
            is("trace(" + i + ")", x.trace(i), m.trace(i));
        }
    }

    private void looks() {
        int side = of(0, 1);
        int p = of(0, 7);
        for (int what = 0; what < 3; what++) {
            is("doing(" + side + ", " + p + ", " + what + ")", x.doing(side, p, what), m.doing(side, p, what));
        }
        int what = of(0, 4);
        is("puller(" + side + ", " + p + ", " + what + ")", x.puller(side, p, what), m.puller(side, p, what));
        int ago = random.nextBoolean() ? of(0, 59) : of(0, 5);
        is("later(" + ago + ", " + what + ")", x.later(ago, what), m.later(ago, what));
        int counted = of(0, 7);
        is("count(" + counted + ")", x.count(counted), m.count(counted));
        is("read(" + side + ")", x.read(side), m.read(side));
        is("status()", x.status(), m.status());
        is("fault()", x.fault(), m.fault());
    }
}
