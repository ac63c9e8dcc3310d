import java.util.Random;

/** Any arguments in any state: no call throws, each ends, and the same calls give the same answers. */
public final class SteadyTest {
    private static final int[] EDGES = {
        Integer.MIN_VALUE, Integer.MIN_VALUE + 1, -1000000, -129, -2, -1, 0, 1, 2, 3, 4, 5, 6, 7, 8, 9, 10, 15, 16, 17, 20, 21,
        39, 40, 41, 50, 51, 59, 60, 61, 99, 100, 101, 200, 201, 999, 1000, 1999, 2000, 2001, Integer.MAX_VALUE - 1,
        Integer.MAX_VALUE,
    };

    private SteadyTest() {
    }

    public static void main(String[] args) {
        for (int seed = 0; seed < 300; seed++) {
            Due.is("seed " + seed + " again", run(seed), run(seed));
        }
        Due.end("SteadyTest");
    }

    private static long run(int seed) {
        Random r = new Random(seed);
        HeelsIn x = new HeelsIn();
        long sum = 0;
        for (int call = 0; call < 600; call++) {
            if (r.nextInt(40) == 0) {
                Due.match(x, new Texts(r).text());
            }
            int sort = r.nextInt(34);
            try {
                sum = sum * 31 + answer(x, r, sort);
            } catch (RuntimeException e) {
                Due.is("seed " + seed + " call " + call + " of sort " + sort + " threw " + e, 1, 0);
            }
        }
        return sum;
    }

    private static int any(Random r) {
        int sort = r.nextInt(8);
        return sort == 0 ? r.nextInt() : sort == 1 ? EDGES[r.nextInt(EDGES.length)] : r.nextInt(sort < 4 ? 50 : 3);
    }

    private static int answer(HeelsIn x, Random r, int sort) {
        int a = any(r);
        int b = any(r);
        int c = any(r);
        int d = any(r);
        switch (sort) {
            case 0: return x.sheet(a, b, c);
            case 1: return x.set(a, b, c);
            case 2: return x.copy(a, b, c, d, any(r));
            case 3: return x.drop(a);
            case 4: return x.feed(r.nextLong(), a);
            case 5: return x.match();
            case 6: return x.fault();
            case 7: return x.puller(a, b, c);
            case 8: return x.begin(a);
            case 9: return x.go(a);
            case 10: return x.told(a, b, c);
            case 11: return x.pull(a);
            case 12: return x.doing(a, b, c);
            case 13: return x.later(a, b);
            case 14: return x.three(a, b);
            case 15: return x.together(a, b, c);
            case 16: return x.stands(a, b);
            case 17: return x.chosen(a, b, c);
            case 18: return x.game(a, b, c, d);
            case 19: return x.left(a, b, c, d, any(r), any(r));
            case 20: return x.read(a);
            case 21: return x.image(a);
            case 22: return x.restore(a);
            case 23: return x.kind(a, b);
            case 24: return x.as(a, b, c);
            case 25: return x.ask(a, b, c);
            case 26: return x.trace(a);
            case 27: return x.count(a);
            case 28: return x.status();
            case 29: return x.begin(a & 1);
            case 30: return x.go(1 + (a & 7));
            case 31: return x.sheet(a & 7, b & 1, 40);
            case 32: return x.told(a & 7, 0, 1 + (b & 3));
            default: return x.set(a & 7, b & 31, c & 3);
        }
    }
}
