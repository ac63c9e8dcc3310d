/** KINDS and section 4, and Promises 25 to 29: each sentence with an edge, just inside and just outside. */
public final class EdgeAskedTest {
    private static final int NONE = HeelsIn.NONE, BAD = HeelsIn.BAD, STATE = HeelsIn.STATE, KIND = -1000013;
    private static final int HELD = 1, HEAVED = 2, COUNTERED = 3, RESTED = 4, SPENT = 5;

    private EdgeAskedTest() {
    }

    public static void main(String[] args) {
        kindsOfLatest();
        kindsOfEachPuller();
        takenAsOne();
        takenAsForce();
        sizeOfEachKind();
        sizeOfLeast();
        markOfEachKind();
        markOfEdges();
        traceIsEmptyAhead();
        traceStaysWhereRefused();
        traceStaysOtherwise();
        traceOfSixteen();
        countOfSheets();
        countOfMatch();
        countOfTape();
        countOfKept();
        Due.end("EdgeAskedTest");
    }

    private static void is(String call, long got, long want) {
        Due.is(call, got, want);
    }

    private static void tell(HeelsIn x, int order0, int order1) {
        Due.lay(x, 7, 0, order0, order1);
        x.told(7, 0, 1);
    }

    /** PULLER 7 of a SIDE: HOLD, BURST, BREATH, LAG as told; the others on it hold, or heave, too. */
    private static HeelsIn last(int side, String traits) {
        String many = "side;" + "puller 80 9 9 60 0;".repeat(7) + "puller 80 " + traits + ";";
        String few = "side;puller 80 9 9 60 0;";
        return Due.of(side == 0 ? many + few : few + many + "ground 100 0 99;");
    }

    private static void tellSide(HeelsIn x, int side, int order, int other) {
        tell(x, side == 0 ? order : other, side == 0 ? other : order);
    }

    /** "(of a PULLER, in the latest TENTH)": by what it did, not by what was told; STATE where none went by. */
    private static void kindsOfLatest() {
        HeelsIn x = Due.of("side;puller 80 50 90 4 0;puller 80 50 90 60 1;side;puller 80 50 90 60 0;");
        is("25 no PULL", x.kind(0, 0), STATE);
        x.begin(0);
        is("25 no TENTH", x.kind(0, 0), STATE);
        int[] told = {0, 1, 1, 3, 2, 3, 0};
        int[] kinds = {HELD, HEAVED, SPENT, RESTED, COUNTERED, RESTED, HELD};
        int[] lagging = {HELD, HELD, HEAVED, HEAVED, RESTED, COUNTERED, RESTED};
        for (int t = 0; t < told.length; t++) {
            tell(x, told[t], 0);
            is("25 in TENTH " + t, x.kind(0, 0), kinds[t]);
            is("25 of LAG 1 in TENTH " + t, x.kind(0, 1), lagging[t]);
            is("25 of SIDE 1 in TENTH " + t, x.kind(1, 0), HELD);
        }
        x.begin(1);
        is("25 no TENTH of another PULL", x.kind(0, 0), STATE);
        is("25 PULLER 2", x.kind(0, 2), BAD);
        is("25 PULLER 1 of SIDE 1", x.kind(1, 1), BAD);
        is("25 PULLER -1", x.kind(0, -1), BAD);
        is("25 SIDE 2", x.kind(2, 0), BAD);
        is("25 SIDE -1", x.kind(-1, 0), BAD);
    }

    private static void kindsOfEachPuller() {
        for (int side = 0; side < 2; side++) {
            for (int order = 0; order < 4; order++) {
                HeelsIn x = last(side, "50 90 60 0");
                x.begin(0);
                tellSide(x, side, order, 0);
                for (int p = 0; p < 8; p++) {
                    is("25 PULLER " + p + " told " + order, x.kind(side, p), order + 1);
                }
                is("25 PULLER 8", x.kind(side, 8), BAD);
                is("25 the other SIDE's", x.kind(1 - side, 0), HELD);
                is("25 the other SIDE's PULLER 1", x.kind(1 - side, 1), BAD);
            }
        }
    }

    /** Puller 7 of SIDE 1 (HOLD 51, BURST 92, BREATH 7, LAG 3) that comes to be of a KIND. */
    private static HeelsIn of(int kind) {
        int[][] tells = {{}, {0, 0, 0, 0}, {1, 0, 0, 0}, {2, 0, 0, 0}, {3, 0, 0, 0}, {0, 1, 1, 0, 0, 0}};
        HeelsIn x = last(1, "51 92 7 3");
        x.begin(0);
        for (int order : tells[kind]) {
            tell(x, 0, order);
        }
        is("25 it is " + kind, x.kind(1, 7), kind);
        return x;
    }

    /** "0 DOING; 1 HELD, a DOING; 2 HEAVED, a DOING; 3 COUNTERED, a HEAVED one; 4 RESTED, a HELD one; 5 SPENT, a DOING." */
    private static void takenAsOne() {
        boolean[][] one = {
            {}, {true, true, false, false, false, false}, {true, false, true, false, false, false}, {true, false, true, true, false, false},
            {true, true, false, false, true, false}, {true, false, false, false, false, true},
        };
        for (int kind = 1; kind <= 5; kind++) {
            for (int as = 0; as <= 5; as++) {
                HeelsIn x = of(kind);
                int answer = x.as(1, 7, as);
                is("26 " + kind + " as " + as, answer, one[kind][as] ? x.doing(1, 7, 2) : KIND);
                is("30 " + kind + " as " + as, x.status(), one[kind][as] ? 0 : 3);
                is("26 " + kind + " as 6", x.as(1, 7, 6), BAD);
                is("26 " + kind + " as -1", x.as(1, 7, -1), BAD);
                is("30 BAD stays behind " + as, x.status(), one[kind][as] ? 0 : 3);
            }
        }
    }

    /** "FORCE": of the PULLER itself, without GRIP; 0 is one, too. */
    private static void takenAsForce() {
        HeelsIn x = Due.of("side;puller 80 1 400 60 0;puller 80 3 7 1 0;side;puller 80 200 300 60 0;ground 50 20 99;");
        x.begin(0);
        tell(x, 1, 2);
        is("26 BURST", x.as(0, 0, 2), 400);
        is("26 SPENT of HOLD 3", x.as(0, 1, 5), 0);
        is("30 0 is no finding", x.status(), 0);
        is("26 half", x.as(1, 0, 3), 250);
        tell(x, 3, 2);
        is("26 rest of HOLD 1", x.as(0, 0, 4), 0);
        is("26 as a HELD one", x.as(0, 0, 1), 0);
        is("26 counter of nothing", x.as(1, 0, 2), 100);
        is("26 as a DOING", x.as(1, 0, 0), 100);
    }

    private static void trace(String name, HeelsIn x, int... due) {
        for (int i = 0; i < 18; i++) {
            is("28 " + name + " at " + i, x.trace(i), i < due.length ? due[i] : NONE);
        }
        is("28 " + name + " at -1", x.trace(-1), NONE);
    }

    private static void asks(String name, HeelsIn x, int side, int puller, int what, int due, int... trace) {
        is("27 " + name, x.ask(side, puller, what), due);
        trace(name, x, trace);
    }

    /** "0 SIZE": 10 .. 14. */
    private static void sizeOfEachKind() {
        // HOLD 51, BURST 92, BREATH 7 at first; LAG 3: three TENTHS are held ahead of what was told at first.
        asks("SIZE of a HELD one", of(HELD), 1, 7, 0, 51 + 3, 11, 10);
        asks("SIZE of a RESTED one", of(RESTED), 1, 7, 0, 2 * (25 + 6), 12, 11, 10);
        asks("SIZE of a HEAVED one", of(HEAVED), 1, 7, 0, 92 - (7 + 30), 13, 10, 21, 20);
        asks("SIZE of a COUNTERED one", of(COUNTERED), 1, 7, 0, 25 - (7 + 30 + 100), 13, 10, 22, 21, 20);
        asks("SIZE of a SPENT one", of(SPENT), 1, 7, 0, -12, 14, 10);
    }

    /** FORCE 0, BREATH 0, and the greatest. */
    private static void sizeOfLeast() {
        HeelsIn x = Due.of("side;puller 80 1 1 1 0;side;puller 80 200 400 60 5;");
        x.begin(0);
        tell(x, 0, 1);
        asks("HELD, 0 BREATH left", x, 0, 0, 0, 1, 11, 10);
        asks("HELD, 59 BREATH left", x, 1, 0, 0, 259, 11, 10);
        tell(x, 0, 2);
        asks("SPENT, no FORCE", x, 0, 0, 0, 0, 14, 10);
        tell(x, 3, 0);
        asks("RESTED, no FORCE, 1 BREATH", x, 0, 0, 0, 2, 12, 11, 10);
        for (int t = 3; t <= 5; t++) {
            tell(x, 3, 0);
        }
        asks("HEAVED, told five TENTHS ago", x, 1, 0, 0, 400 - 50, 13, 10, 21, 20);
        tell(x, 1, 0);
        asks("SPENT, no FORCE, again", x, 0, 0, 0, 0, 14, 10);
        is("25 COUNTERED, told five TENTHS ago", x.kind(1, 0), COUNTERED);
        asks("COUNTERED against a heave that is told", x, 1, 0, 0, 300 - 150, 13, 10, 22, 21, 20);
        HeelsIn y = Due.of("side;puller 80 200 400 60 0;side;puller 80 200 400 60 5;");
        y.begin(0);
        tell(y, 1, 0);
        asks("HEAVED, MARK 0", y, 0, 0, 0, 400, 13, 10, 21, 20);
    }

    /** "1 MARK": 20 .. 24. */
    private static void markOfEachKind() {
        asks("MARK of a HELD one", of(HELD), 1, 7, 1, 7, 20);
        asks("MARK of a RESTED one", of(RESTED), 1, 7, 1, 7 - 62, 24, 20, 12, 11, 10);
        asks("MARK of a HEAVED one", of(HEAVED), 1, 7, 1, 37, 21, 20);
        asks("MARK of a COUNTERED one", of(COUNTERED), 1, 7, 1, 137, 22, 21, 20);
        asks("MARK of a SPENT one", of(SPENT), 1, 7, 1, 7 - 12, 23, 20, 14, 10);
    }

    /** "its PULLER" (its number on its SIDE), "10 times its LAG": 0 to 7, 0 to 5. */
    private static void markOfEdges() {
        for (int side = 0; side < 2; side++) {
            for (int lag = 0; lag <= 5; lag++) {
                HeelsIn x = last(side, "50 90 60 " + lag);
                x.begin(0);
                for (int t = 0; t <= lag; t++) {
                    tellSide(x, side, 1, 0);
                }
                asks("MARK of LAG " + lag, x, side, 7, 1, 7 + 10 * lag, 21, 20);
                asks("SIZE of LAG " + lag, x, side, 7, 0, 90 - 7 - 10 * lag, 13, 10, 21, 20);
                asks("MARK of PULLER 0", x, side, 0, 1, 0, 21, 20);
                asks("MARK of PULLER 6", x, side, 6, 1, 6, 21, 20);
                asks("MARK of one that holds", x, 1 - side, 0, 1, 0, 20);
            }
        }
    }

    /** "THE TRACE is empty ahead of it": nothing of a longer one is left. */
    private static void traceIsEmptyAhead() {
        HeelsIn x = of(RESTED);
        asks("the longest", x, 1, 7, 1, 7 - 62, 24, 20, 12, 11, 10);
        asks("a shorter one", x, 1, 7, 0, 62, 12, 11, 10);
        asks("of another one", x, 0, 0, 1, 0, 20);
        asks("again", x, 0, 0, 1, 0, 20);
        asks("the longest again", x, 1, 7, 1, 7 - 62, 24, 20, 12, 11, 10);
    }

    /** "(where that is refused it stays)". */
    private static void traceStaysWhereRefused() {
        HeelsIn x = of(SPENT);
        x.ask(1, 7, 1);
        int[][] bad = {{2, 0, 0}, {-1, 0, 0}, {0, 1, 0}, {1, 8, 0}, {1, -1, 0}, {1, 7, 2}, {1, 7, -1}};
        for (int[] b : bad) {
            is("27 BAD", x.ask(b[0], b[1], b[2]), BAD);
            trace("behind BAD", x, 23, 20, 14, 10);
        }
        x.begin(0);
        is("27 STATE", x.ask(1, 7, 0), STATE);
        trace("behind STATE", x, 23, 20, 14, 10);
        Due.match(x, "side;puller 80 9 9 9 0;side;puller 80 9 9 9 0;");
        is("27 STATE without a PULL", x.ask(0, 0, 0), STATE);
        is("27 BAD without such a PULLER", x.ask(1, 7, 0), BAD);
        trace("behind a MATCH", x, 23, 20, 14, 10);
    }

    /** No other call leaves anything in it, nor takes it away. */
    private static void traceStaysOtherwise() {
        HeelsIn x = of(COUNTERED);
        x.image(0);
        x.ask(1, 7, 1);
        x.kind(0, 0);
        x.as(1, 7, 3);
        x.as(1, 7, 5);
        x.go(2);
        x.three(5, 3);
        x.restore(0);
        x.image(1);
        x.match();
        trace("behind others", x, 22, 21, 20);
    }

    /** "Number i of THE TRACE; NONE.": none has more than five. */
    private static void traceOfSixteen() {
        HeelsIn x = of(COUNTERED);
        trace("none asked yet", x);
        x.ask(1, 7, 0);
        int[] due = {13, 10, 22, 21, 20};
        for (int i = 0; i < 5; i++) {
            is("28 " + i, x.trace(i), due[i]);
        }
        for (int i : new int[] {5, 15, 16, 17, Integer.MAX_VALUE, -1, Integer.MIN_VALUE}) {
            is("28 " + i, x.trace(i), NONE);
        }
    }

    /** "0 SHEETS": those that are there, without an ITEM, too. */
    private static void countOfSheets() {
        HeelsIn x = new HeelsIn();
        for (int sheet = 7; sheet >= 0; sheet--) {
            x.sheet(sheet, 0, sheet == 3 ? 0 : 40);
            is("29 up to " + sheet, x.count(0), 8 - sheet);
        }
        x.sheet(0, 0, -1);
        x.sheet(0, 3, 1);
        is("29 refused", x.count(0), 8);
        x.drop(3);
        x.drop(3);
        is("29 one less", x.count(0), 7);
        is("29 what 8", x.count(8), BAD);
        is("29 what -1", x.count(-1), BAD);
        is("29 the highest", x.count(Integer.MAX_VALUE), BAD);
        is("29 the lowest", x.count(Integer.MIN_VALUE), BAD);
    }

    /** "1, 2 PULLERS of SIDE 0, 1, 3, 4 rules of them", "6 FAR": 0 of none. */
    private static void countOfMatch() {
        HeelsIn x = new HeelsIn();
        for (int what : new int[] {1, 2, 3, 4, 6}) {
            is("29 no MATCH: " + what, x.count(what), 0);
        }
        Due.match(x, "side;puller 80 9 9 9 0;side;");
        is("29 a FAULT", x.count(1), 0);
        String one = "puller 80 9 9 9 0;";
        String rule = "when tenth above 9 rest;";
        Due.match(x, "side;" + one.repeat(8) + "side;" + one + rule.repeat(6) + "ground 1 0 99;");
        int[] due = {0, 8, 1, 0, 6, 0, 99, 0};
        for (int what = 0; what < 8; what++) {
            is("29 count " + what, x.count(what), due[what]);
        }
        Due.match(x, "side;" + one + rule.repeat(6) + "side;" + one.repeat(8) + "ground 1 0 1;");
        int[] then = {0, 1, 8, 6, 0, 0, 1, 0};
        for (int what = 0; what < 8; what++) {
            is("29 count " + what + " then", x.count(what), then[what]);
        }
    }

    private static void countOfTape() {
        HeelsIn x = new HeelsIn();
        int had = 0;
        for (int n = 1; n <= 8; n++) {
            x.feed(0, n);
            had += n;
            is("29 bytes", x.count(5), had);
        }
        x.feed(0, 9);
        x.feed(0, 0);
        is("29 bytes still", x.count(5), 36);
        x.match();
        is("29 none", x.count(5), 0);
    }

    private static void countOfKept() {
        HeelsIn x = Due.of("side;puller 80 9 9 9 0;side;puller 80 9 9 9 0;");
        is("29 no PULL", x.count(7), 0);
        x.begin(0);
        is("29 no TENTH", x.count(7), 0);
        for (int gone = 1; gone <= 65; gone++) {
            x.go(1);
            is("29 kept of " + gone, x.count(7), Math.min(60, gone));
        }
        x.go(100);
        is("29 sixty", x.count(7), 60);
        x.begin(0);
        is("29 none of another PULL", x.count(7), 0);
    }
}
