/** Objects in the states that refusals are asked in. */
final class States {
    static final String FIRST = "side;puller 80 50 90 9 0;puller 70 60 110 12 1;when tenth above 30 rest;when thread above 2 heave;"
        + "side;puller 75 40 80 9 1;puller 60 44 99 20 0;puller 90 70 80 8 5;when theirs below 5 heave;ground 90 1 25;";
    static final String SECOND = "side;puller 100 80 200 30 2;when breath above 4 heave;side;puller 41 71 81 21 3;ground 80 2 40;";

    private static final String STRONG = "side;puller 100 200 300 60 0;side;puller 41 50 81 21 3;ground 80 2 9;";

    private States() {
    }

    /** SHEETS 0 bytes, 1 shorts, 2 ints, 3 without an ITEM, 4 again bytes, the others missing; no MATCH. */
    static void sheets(HeelsIn x) {
        Due.lay(x, 0, 0, 0, 1, 2, 3, 1, 0, 2, 2);
        Due.lay(x, 1, 1, 3, 300, 1, -1, 3);
        Due.lay(x, 2, 2, 100, 70000, 1, 2, 3, 1);
        x.sheet(3, 0, 0);
        Due.lay(x, 4, 0, 3, 3, 1);
        x.set(0, 8, 0);
    }

    /** A MATCH, no PULL. */
    static void matched(HeelsIn x) {
        Due.match(x, FIRST);
        sheets(x);
    }

    /** A PULL, no TENTH. */
    static void begun(HeelsIn x) {
        matched(x);
        x.begin(1);
    }

    /** All there is: a PULL of some TENTHS, IMAGES of another one and of none, a TRACE, a FAULT, bytes on the tape. */
    static void full(HeelsIn x) {
        Due.match(x, SECOND);
        x.begin(0);
        x.go(4);
        x.image(0);
        begun(x);
        Due.match(x, "side;;");
        x.told(0, 0, 2);
        x.go(5);
        x.ask(0, 1, 1);
        Due.feed(x, "side;puller 80 50 90 9 0;side;puller 70 40 80 9 1;");
        x.set(0, 8, 0);
    }

    /** One has WON, and both IMAGES are kept. */
    static void won(HeelsIn x) {
        Due.match(x, STRONG);
        x.image(1);
        x.begin(1);
        x.go(100);
        x.image(0);
        sheets(x);
    }

    /** Eight on each SIDE, no two alike, all six rules; 65 TENTHS, some SPENT: the fullest that a PULL can be. */
    static void sixteen(HeelsIn x) {
        StringBuilder text = new StringBuilder();
        for (int k = 0; k < 16; k++) {
            text.append(k % 8 == 0 ? "side;" : "").append("puller").append(45 + 5 * k).append(' ').append(20 + 3 * k % 7).append(' ')
                .append(60 + 5 * k % 11).append(' ').append(20 - k).append(' ').append(k % 6).append(';');
            if (k % 8 == 7) {
                text.append("when breath below ").append(3 + k / 8).append(" rest;when tenth above 62 rest;when theirs below 2 heave;")
                    .append("when thread above 9 counter;when thread below -9 heave;when tenth below ").append(4 + k).append(" heave;");
            }
        }
        Due.match(x, text + "ground 99 1 90;");
        x.begin(1);
        x.go(65);
        sheets(x);
    }
}
