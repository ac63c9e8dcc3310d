/** What the tests share: answers that are compared, and texts that are fed. */
final class Due {
    private static int wrong = 0;
    private static int compared = 0;

    private Due() {
    }

    static void is(String call, long got, long want) {
        compared++;
        if (got != want) {
            wrong++;
            if (wrong <= 40) {
                System.out.println(call + " answered " + got + ", due is " + want);
            }
        }
    }

    static boolean allWell() {
        return wrong == 0;
    }

    static void end(String test) {
        System.out.println(test + ": " + compared + " answers, " + wrong + " not as due");
        if (wrong != 0) {
            System.exit(1);
        }
    }

    static void feed(HeelsIn x, String text) {
        for (int at = 0; at < text.length(); at += 8) {
            int n = Math.min(8, text.length() - at);
            x.feed(word(text, at, n), n);
        }
    }

    static long word(String text, int at, int n) {
        long w = 0;
        for (int k = 0; k < n; k++) {
            w = w << 8 | text.charAt(at + k) & 255;
        }
        return w;
    }

    static int match(HeelsIn x, String text) {
        feed(x, text);
        return x.match();
    }

    static HeelsIn of(String text) {
        HeelsIn x = new HeelsIn();
        int answer = match(x, text);
        if (answer < 0) {
            is("match() of " + text, answer, 0);
        }
        return x;
    }

    static void lay(HeelsIn x, int sheet, int lane, int... items) {
        x.sheet(sheet, lane, items.length);
        for (int k = 0; k < items.length; k++) {
            x.set(sheet, k, items[k]);
        }
    }
}
