/** Terms: each refusal's answer, which of several comes first, and that it changes nothing but status(). */
public final class RefusalsTest {
    private static final int NONE = HeelsIn.NONE, BAD = HeelsIn.BAD, STATE = HeelsIn.STATE, FULL = HeelsIn.FULL;
    private static final int NULL = -1000011, PLACE = -1000012, KIND = -1000013, SIZE = -1000014, STORE = -1000015;
    private static final int HIGH = Integer.MAX_VALUE, LOW = Integer.MIN_VALUE;

    private RefusalsTest() {
    }

    public static void main(String[] args) {
        sheet();
        set();
        copy();
        drop();
        feed();
        match();
        puller();
        begin();
        go();
        told();
        pull();
        doing();
        later();
        three();
        together();
        stands();
        chosen();
        game();
        left();
        read();
        images();
        kind();
        as();
        ask();
        count();
        questions();
        Due.end("RefusalsTest");
    }

    private static void fresh(String name, Twins.Call call, int due) {
        Twins.refused("new: " + name, x -> { }, call, due);
    }

    private static void matched(String name, Twins.Call call, int due) {
        Twins.refused("no PULL: " + name, States::matched, call, due);
    }

    private static void begun(String name, Twins.Call call, int due) {
        Twins.refused("no TENTH: " + name, States::begun, call, due);
    }

    private static void full(String name, Twins.Call call, int due) {
        Twins.refused("full: " + name, States::full, call, due);
    }

    private static void won(String name, Twins.Call call, int due) {
        Twins.refused("won: " + name, States::won, call, due);
    }

    /** BAD is the first of all refusals: in every state. */
    private static void bad(String name, Twins.Call call) {
        fresh(name, call, BAD);
        matched(name, call, BAD);
        begun(name, call, BAD);
        full(name, call, BAD);
        won(name, call, BAD);
    }

    /** No MATCH. */
    private static void unmatched(String name, Twins.Call call, int due) {
        fresh(name, call, due);
        Twins.refused("a FAULT alone: " + name, x -> Due.match(x, "side;puller 80 50 90 9 0;"), call, due);
    }

    /** No PULL: none began, the MATCH is a new one, the IMAGE was kept without one. */
    private static void unbegun(String name, Twins.Call call, int due) {
        matched(name, call, due);
        Twins.refused("a new MATCH: " + name, x -> {
            States.full(x);
            x.match();
            Due.match(x, States.FIRST);
            x.set(1, 9, 0);
        }, call, due);
        Twins.refused("an IMAGE without a PULL: " + name, x -> {
            States.matched(x);
            x.image(1);
            x.begin(0);
            x.go(3);
            x.restore(1);
        }, call, due);
    }

    private static void sheet() {
        for (int sheet : new int[] {-1, 8, HIGH, LOW}) {
            bad("2 SHEET " + sheet, x -> x.sheet(sheet, 0, 1));
            full("2 SHEET " + sheet + " ahead of SIZE", x -> x.sheet(sheet, 0, -1), BAD);
        }
        for (int lane : new int[] {-1, 3, HIGH, LOW}) {
            bad("2 LANE " + lane, x -> x.sheet(1, lane, 1));
            full("2 LANE " + lane + " ahead of SIZE", x -> x.sheet(1, lane, -1), BAD);
        }
        for (int n : new int[] {41, 42, HIGH}) {
            bad("2 n " + n, x -> x.sheet(2, 2, n));
            full("2 n " + n + " of a missing one", x -> x.sheet(7, 0, n), BAD);
        }
        for (int n : new int[] {-1, -41, LOW}) {
            full("2 SIZE " + n, x -> x.sheet(2, 2, n), SIZE);
            full("2 SIZE of a missing one " + n, x -> x.sheet(6, 0, n), SIZE);
            fresh("2 SIZE " + n, x -> x.sheet(0, 1, n), SIZE);
        }
    }

    private static void set() {
        for (int sheet : new int[] {-1, 8, HIGH, LOW}) {
            bad("3 SHEET " + sheet, x -> x.set(sheet, 0, 1));
            full("3 SHEET " + sheet + " ahead of PLACE", x -> x.set(sheet, -1, 1), BAD);
        }
        for (int sheet = 0; sheet < 8; sheet++) {
            int s = sheet;
            fresh("3 NULL " + s, x -> x.set(s, 0, 1), NULL);
        }
        full("3 NULL 5", x -> x.set(5, 0, 1), NULL);
        full("3 NULL 7", x -> x.set(7, 0, 1), NULL);
        full("3 NULL ahead of PLACE", x -> x.set(6, -1, 1), NULL);
        full("3 NULL ahead of PLACE, above", x -> x.set(6, 40, 1), NULL);
        int[] sizes = {8, 5, 6, 0, 3};
        for (int sheet = 0; sheet < 5; sheet++) {
            for (int i : new int[] {-1, LOW, sizes[sheet], sizes[sheet] + 1, 39, 40, HIGH}) {
                int s = sheet;
                full("3 PLACE " + i + " of " + sizes[s], x -> x.set(s, i, 1), PLACE);
            }
        }
    }

    private static void copy() {
        for (int sheet : new int[] {-1, 8, HIGH, LOW}) {
            bad("4 SHEET a " + sheet, x -> x.copy(sheet, 0, 0, 0, 1));
            bad("4 SHEET b " + sheet, x -> x.copy(0, 0, sheet, 0, 1));
            full("4 SHEET a ahead of NULL " + sheet, x -> x.copy(sheet, 0, 7, 0, 1), BAD);
            full("4 SHEET b ahead of NULL " + sheet, x -> x.copy(7, 0, sheet, 0, 1), BAD);
            full("4 SHEET b ahead of PLACE " + sheet, x -> x.copy(0, -1, sheet, 0, 1), BAD);
        }
        full("4 NULL a", x -> x.copy(5, 0, 0, 0, 0), NULL);
        full("4 NULL b", x -> x.copy(0, 0, 5, 0, 0), NULL);
        full("4 NULL of both", x -> x.copy(6, 0, 5, 0, 0), NULL);
        full("4 NULL of itself", x -> x.copy(7, 0, 7, 0, 0), NULL);
        full("4 NULL a ahead of PLACE", x -> x.copy(5, -1, 0, -1, -1), NULL);
        full("4 NULL b ahead of PLACE", x -> x.copy(0, -1, 5, -1, -1), NULL);
        full("4 STORE bytes, shorts", x -> x.copy(0, 0, 1, 0, 1), STORE);
        full("4 STORE bytes, ints", x -> x.copy(0, 0, 2, 0, 1), STORE);
        full("4 STORE shorts, bytes", x -> x.copy(1, 0, 0, 0, 1), STORE);
        full("4 STORE shorts, ints", x -> x.copy(1, 0, 2, 0, 1), STORE);
        full("4 STORE ints, bytes", x -> x.copy(2, 0, 0, 0, 1), STORE);
        full("4 STORE ints, shorts", x -> x.copy(2, 0, 1, 0, 1), STORE);
        full("4 STORE of none", x -> x.copy(3, 0, 1, 0, 0), STORE);
        full("4 STORE ahead of PLACE i", x -> x.copy(0, -1, 1, 0, 1), STORE);
        full("4 STORE ahead of PLACE j", x -> x.copy(0, 0, 1, 99, 1), STORE);
        full("4 STORE ahead of PLACE n", x -> x.copy(0, 0, 1, 0, -1), STORE);
        copyPlaces();
    }

    /** From SHEET 0 (8 ITEMS) to SHEET 4 (3 ITEMS), both of bytes. */
    private static void copyPlaces() {
        int[][] places = {
            {-1, 0, 1}, {0, -1, 1}, {0, 0, -1}, {-1, 0, 0}, {0, -1, 0}, {9, 0, 0}, {0, 4, 0}, {8, 0, 1}, {0, 3, 1}, {6, 0, 3},
            {0, 1, 3}, {0, 0, 4}, {0, 2, 2}, {-1, 0, 2}, {0, -1, 2}, {1, 1, HIGH}, {HIGH, 0, 1}, {0, HIGH, 1}, {HIGH, 0, HIGH},
            {0, HIGH, HIGH}, {HIGH, HIGH, HIGH}, {LOW, 0, 1}, {0, LOW, 1}, {0, 0, LOW}, {LOW, LOW, LOW}, {2, 1, LOW}, {-1, 0, HIGH},
        };
        for (int[] p : places) {
            full("4 PLACE " + p[0] + ", " + p[1] + ", " + p[2], x -> x.copy(0, p[0], 4, p[1], p[2]), PLACE);
        }
        full("4 PLACE in one", x -> x.copy(0, 1, 0, 0, 8), PLACE);
        full("4 PLACE in one, the other", x -> x.copy(0, 0, 0, 1, 8), PLACE);
        full("4 PLACE of none", x -> x.copy(3, 0, 3, 0, 1), PLACE);
        full("4 PLACE of none, 1", x -> x.copy(3, 1, 3, 0, 0), PLACE);
    }

    private static void drop() {
        for (int sheet : new int[] {-1, 8, HIGH, LOW}) {
            bad("5 SHEET " + sheet, x -> x.drop(sheet));
        }
        for (int sheet = 0; sheet < 8; sheet++) {
            int s = sheet;
            fresh("5 NULL " + s, x -> x.drop(s), NULL);
        }
        full("5 NULL", x -> x.drop(5), NULL);
        Twins.refused("5 NULL of a dropped one", x -> {
            States.full(x);
            x.drop(1);
        }, x -> x.drop(1), NULL);
    }

    private static void feed() {
        for (int n : new int[] {0, 9, -1, -8, 16, HIGH, LOW}) {
            bad("6 n " + n, x -> x.feed(0x6161616161616161L, n));
        }
        for (int n = 1; n <= 8; n++) {
            int least = 701 - n;
            for (int had : new int[] {least, 700}) {
                int last = n;
                Twins.refused("6 FULL: " + n + " behind " + had, x -> fill(x, had), x -> x.feed(-1L, last), FULL);
            }
        }
        for (int n : new int[] {0, 9, -1, HIGH, LOW}) {
            Twins.refused("6 BAD ahead of FULL " + n, x -> fill(x, 700), x -> x.feed(-1L, n), BAD);
        }
    }

    /** A good text, and blanks behind it. */
    private static void fill(HeelsIn x, int bytes) {
        Due.match(x, States.SECOND);
        Due.feed(x, States.FIRST + " ".repeat(bytes - States.FIRST.length()));
    }

    /** "all but the tape, and what fault() tells, stays": the tape is empty, and the FAULT the same, in both. */
    private static void match() {
        String[] faulty = {"side;puller 99 1 2 3 4;when tenth above 1 rest;side;puller 98 1 2 3 4;ground 7 7 7;;", "side",
            States.SECOND + "puller", "side;puller 99 1 2 3 4;side;puller 98 1 2 3 6;",
            "side;" + "puller 99 1 2 3 4;".repeat(8) + "side;" + "puller 98 2 3 4 5;".repeat(8) + "ground 7 7 7"};
        for (String text : faulty) {
            for (Twins.Calls ahead : new Twins.Calls[] {x -> { }, States::matched, States::begun, States::full, States::won,
                States::sixteen}) {
                Twins.same("7 a FAULT in '" + text + "'", x -> {
                    fault1(x);
                    ahead.of(x);
                    Due.match(x, "");
                    Due.match(x, text);
                    Due.match(x, "");
                }, x -> {
                    fault1(x);
                    ahead.of(x);
                    Due.match(x, "");
                    Due.match(x, "");
                });
            }
        }
    }

    private static void fault1(HeelsIn x) {
        Due.match(x, "");
    }

    private static void puller() {
        for (int side : new int[] {-1, 2, HIGH, LOW}) {
            bad("9 SIDE " + side, x -> x.puller(side, 0, 0));
        }
        for (int what : new int[] {-1, 5, HIGH, LOW}) {
            bad("9 what " + what, x -> x.puller(0, 0, what));
        }
        for (int p : new int[] {-1, 8, HIGH, LOW}) {
            bad("9 PULLER " + p, x -> x.puller(0, p, 0));
        }
        unmatched("9 no such PULLER", x -> x.puller(0, 0, 0), BAD);
        full("9 PULLER 2 of SIDE 0", x -> x.puller(0, 2, 0), BAD);
        full("9 PULLER 3 of SIDE 1", x -> x.puller(1, 3, 0), BAD);
    }

    private static void begin() {
        for (int changed : new int[] {-1, 2, HIGH, LOW}) {
            bad("10 changed " + changed, x -> x.begin(changed));
        }
        unmatched("10 STATE", x -> x.begin(0), STATE);
        unmatched("10 STATE, changed", x -> x.begin(1), STATE);
    }

    private static void go() {
        for (int n : new int[] {0, 101, -1, HIGH, LOW}) {
            bad("11 n " + n, x -> x.go(n));
        }
        unmatched("11 STATE", x -> x.go(1), STATE);
        unbegun("11 STATE", x -> x.go(100), STATE);
        won("11 nothing goes on", x -> x.go(1), 0);
        won("11 nothing goes on, 100", x -> x.go(100), 0);
    }

    private static void told() {
        for (int sheet : new int[] {-1, 8, HIGH, LOW}) {
            bad("12 SHEET " + sheet, x -> x.told(sheet, 0, 1));
        }
        for (int n : new int[] {0, 21, -1, HIGH, LOW, 1 << 30, 1 << 31}) {
            bad("12 n " + n, x -> x.told(0, 0, n));
            full("12 n ahead of NULL " + n, x -> x.told(5, 0, n), BAD);
            full("12 n ahead of PLACE " + n, x -> x.told(0, -1, n), BAD);
        }
        unmatched("12 STATE", x -> x.told(0, 0, 1), STATE);
        unbegun("12 STATE", x -> x.told(0, 0, 1), STATE);
        unbegun("12 STATE ahead of NULL", x -> x.told(7, 0, 1), STATE);
        unbegun("12 STATE ahead of PLACE", x -> x.told(0, -1, 1), STATE);
        unbegun("12 STATE ahead of an ITEM", x -> x.told(1, 1, 1), STATE);
        full("12 NULL", x -> x.told(5, 0, 1), NULL);
        full("12 NULL ahead of PLACE", x -> x.told(5, -1, 20), NULL);
        int[][] places = {{0, -1, 1}, {0, 7, 1}, {0, 8, 1}, {0, 0, 5}, {0, 1, 4}, {0, 0, 20}, {0, HIGH, 1}, {0, HIGH, 20}, {0, LOW, 1},
            {0, LOW, 20}, {3, 0, 1}, {4, 0, 2}, {4, 2, 1}, {0, -2, 1}};
        for (int[] p : places) {
            full("12 PLACE " + p[1] + ", " + p[2], x -> x.told(p[0], p[1], p[2]), PLACE);
            won("12 PLACE, won " + p[1] + ", " + p[2], x -> x.told(p[0], p[1], p[2]), PLACE);
        }
        full("12 PLACE ahead of an ITEM", x -> x.told(1, 1, 3), PLACE);
        full("12 an ITEM 300", x -> x.told(1, 0, 1), BAD);
        full("12 an ITEM -1", x -> x.told(1, 2, 1), BAD);
        full("12 an ITEM -1 at first", x -> x.told(1, 3, 1), BAD);
        full("12 an ITEM 70000", x -> x.told(2, 1, 1), BAD);
        won("12 an ITEM, won", x -> x.told(1, 0, 1), BAD);
        itemFour();
    }

    private static void itemFour() {
        for (int at = 0; at < 40; at++) {
            for (int item : new int[] {4, -1}) {
                int place = at;
                Twins.refused("12 ITEM " + item + " at " + at, x -> {
                    States.begun(x);
                    x.sheet(6, 0, 40);
                    x.set(6, place, item);
                }, x -> x.told(6, 0, 20), BAD);
            }
        }
    }

    private static void pull() {
        for (int what : new int[] {-1, 7, HIGH, LOW}) {
            bad("13 what " + what, x -> x.pull(what));
        }
        for (int k = 0; k < 7; k++) {
            int what = k;
            unmatched("13 STATE", x -> x.pull(what), STATE);
            unbegun("13 STATE", x -> x.pull(what), STATE);
        }
    }

    private static void doing() {
        for (int side : new int[] {-1, 2, HIGH, LOW}) {
            bad("14 SIDE " + side, x -> x.doing(side, 0, 0));
        }
        for (int what : new int[] {-1, 3, HIGH, LOW}) {
            bad("14 what " + what, x -> x.doing(0, 0, what));
        }
        for (int p : new int[] {-1, 8, HIGH, LOW}) {
            bad("14 PULLER " + p, x -> x.doing(0, p, 0));
        }
        unmatched("14 no such PULLER", x -> x.doing(0, 0, 0), BAD);
        full("14 PULLER 2 of SIDE 0", x -> x.doing(0, 2, 0), BAD);
        full("14 PULLER 3 of SIDE 1", x -> x.doing(1, 3, 0), BAD);
        for (int k = 0; k < 3; k++) {
            int what = k;
            unbegun("14 STATE", x -> x.doing(1, 2, what), STATE);
            unbegun("14 BAD ahead of STATE", x -> x.doing(0, 2, what), BAD);
        }
        begun("14 none went by", x -> x.doing(0, 1, 1), NONE);
        begun("14 none went by: FORCE", x -> x.doing(1, 2, 2), NONE);
    }

    private static void later() {
        for (int ago : new int[] {-1, LOW}) {
            bad("15 ago " + ago, x -> x.later(ago, 0));
        }
        for (int what : new int[] {-1, 5, HIGH, LOW}) {
            bad("15 what " + what, x -> x.later(0, what));
            bad("15 what ahead of NONE " + what, x -> x.later(60, what));
        }
        for (int ago : new int[] {0, 59, 60, HIGH}) {
            unmatched("15 STATE " + ago, x -> x.later(ago, 0), STATE);
            unbegun("15 STATE " + ago, x -> x.later(ago, 4), STATE);
            begun("15 not so many " + ago, x -> x.later(ago, 4), NONE);
        }
        full("15 not so many", x -> x.later(7, 0), NONE);
        full("15 not so many: high", x -> x.later(HIGH, 4), NONE);
    }

    private static void three() {
        for (int n : new int[] {0, 201, -1, HIGH, LOW}) {
            bad("16 n " + n, x -> x.three(n, 0));
        }
        for (int what : new int[] {-1, 4, HIGH, LOW}) {
            bad("16 what " + what, x -> x.three(1, what));
        }
        for (int k = 0; k < 4; k++) {
            int what = k;
            unmatched("16 STATE", x -> x.three(1, what), STATE);
            unmatched("16 STATE of 200", x -> x.three(200, what), STATE);
        }
    }

    private static void together() {
        for (int side : new int[] {-1, 2, HIGH, LOW}) {
            bad("17 SIDE " + side, x -> x.together(side, 0, 0));
        }
        for (int e : new int[] {-1, 51, HIGH, LOW}) {
            bad("17 e " + e, x -> x.together(0, e, 0));
        }
        for (int what : new int[] {-1, 2, HIGH, LOW}) {
            bad("17 what " + what, x -> x.together(1, 0, what));
        }
        unmatched("17 no MATCH", x -> x.together(0, 0, 0), BAD);
        unmatched("17 no MATCH", x -> x.together(1, 50, 1), BAD);
    }

    private static void stands() {
        for (int side : new int[] {-1, 2, HIGH, LOW}) {
            bad("18 SIDE " + side, x -> x.stands(side, 0));
            bad("18 SIDE ahead of NONE " + side, x -> x.stands(side, 9));
        }
        for (int place : new int[] {-2, LOW}) {
            bad("18 place " + place, x -> x.stands(0, place));
        }
        for (int place : new int[] {-1, 0, 7, 8, HIGH}) {
            unmatched("18 no MATCH " + place, x -> x.stands(0, place), BAD);
            unmatched("18 no MATCH " + place, x -> x.stands(1, place), BAD);
        }
        for (int place : new int[] {3, 7, 8, HIGH}) {
            full("18 not so many " + place, x -> x.stands(1, place), NONE);
        }
        full("18 not so many of SIDE 0", x -> x.stands(0, 2), NONE);
    }

    private static void chosen() {
        for (int w : new int[] {-1, 2001, HIGH, LOW}) {
            bad("19 w " + w, x -> x.chosen(w, 1, 0));
        }
        for (int n : new int[] {0, 17, -1, HIGH, LOW}) {
            bad("19 n " + n, x -> x.chosen(0, n, 0));
        }
        for (int what : new int[] {-1, 2, HIGH, LOW}) {
            bad("19 what " + what, x -> x.chosen(0, 1, what));
        }
        unmatched("19 STATE", x -> x.chosen(0, 1, 0), STATE);
        unmatched("19 STATE", x -> x.chosen(2000, 16, 1), STATE);
    }

    private static void game() {
        for (int breath : new int[] {-1, 10, HIGH, LOW}) {
            bad("20 a " + breath, x -> x.game(breath, 0, 0, 0));
            bad("20 b " + breath, x -> x.game(0, breath, 0, 0));
        }
        for (int t : new int[] {-1, 21, HIGH, LOW}) {
            bad("20 t " + t, x -> x.game(0, 0, t, 0));
        }
        for (int what : new int[] {-1, 2, HIGH, LOW}) {
            bad("20 what " + what, x -> x.game(0, 0, 0, what));
            bad("20 what " + what + ", 20 TENTHS", x -> x.game(9, 9, 20, what));
        }
    }

    private static void left() {
        int[][] wrong = {
            {-1, 0, 1, 1, 2, 0}, {8, 0, 1, 1, 2, 0}, {HIGH, 0, 1, 1, 2, 0}, {LOW, 0, 1, 1, 2, 0},
            {0, 0, 0, 1, 2, 0}, {0, 0, 21, 1, 2, 0}, {0, 0, -1, 1, 2, 0}, {0, 0, HIGH, 1, 2, 0}, {0, 0, LOW, 1, 2, 0},
            {0, 0, 1, 0, 2, 0}, {0, 0, 1, -1, 2, 0}, {0, 0, 1, 1000, 1999, 0}, {0, 0, 1, LOW, 2, 0}, {0, 0, 1, HIGH, 2, 0},
            {0, 0, 1, 1, 1, 0}, {0, 0, 1, 2, 1, 0}, {0, 0, 1, 1, 2000, 0}, {0, 0, 1, 999, 999, 0}, {0, 0, 1, 999, 2000, 0},
            {0, 0, 1, 1, LOW, 0}, {0, 0, 1, 1, HIGH, 0}, {0, 0, 1, 1, 0, 0},
            {0, 0, 1, 1, 2, -1}, {0, 0, 1, 1, 2, 3}, {0, 0, 1, 1, 2, HIGH}, {0, 0, 1, 1, 2, LOW},
        };
        for (int[] w : wrong) {
            bad("21 " + w[0] + ", " + w[2] + ", " + w[3] + ", " + w[4] + ", " + w[5],
                x -> x.left(w[0], w[1], w[2], w[3], w[4], w[5]));
            full("21 ahead of NULL", x -> x.left(w[0] == 0 ? 5 : w[0], w[1], w[2], w[3], w[4], w[5]), BAD);
            full("21 ahead of PLACE", x -> x.left(w[0], -1, w[2], w[3], w[4], w[5]), BAD);
        }
        fresh("21 NULL", x -> x.left(0, 0, 1, 1, 2, 0), NULL);
        full("21 NULL", x -> x.left(5, 0, 1, 1, 2, 1), NULL);
        full("21 NULL ahead of PLACE", x -> x.left(5, -1, 20, 1, 2, 2), NULL);
        int[][] places = {{0, -1, 1}, {0, 8, 1}, {0, 9, 1}, {0, 0, 9}, {0, 7, 2}, {0, 0, 20}, {0, HIGH, 1}, {0, HIGH, 20}, {0, LOW, 1},
            {0, LOW, 20}, {3, 0, 1}, {4, 3, 1}, {4, 0, 4}};
        for (int[] p : places) {
            for (int k = 0; k < 3; k++) {
                int what = k;
                full("21 PLACE " + p[1] + ", " + p[2], x -> x.left(p[0], p[1], p[2], 1, 2, what), PLACE);
            }
        }
    }

    private static void read() {
        for (int side : new int[] {-1, 2, HIGH, LOW}) {
            bad("22 SIDE " + side, x -> x.read(side));
        }
        unmatched("22 STATE", x -> x.read(0), STATE);
        unbegun("22 STATE", x -> x.read(0), STATE);
        unbegun("22 STATE", x -> x.read(1), STATE);
        begun("22 NONE", x -> x.read(0), NONE);
    }

    private static void images() {
        for (int k : new int[] {-1, 2, HIGH, LOW}) {
            bad("23 k " + k, x -> x.image(k));
            bad("24 k " + k, x -> x.restore(k));
        }
        for (int image = 0; image < 2; image++) {
            int k = image;
            unmatched("23 STATE " + k, x -> x.image(k), STATE);
            unmatched("24 STATE " + k, x -> x.restore(k), STATE);
            matched("24 none was kept " + k, x -> x.restore(k), STATE);
            begun("24 none was kept " + k, x -> x.restore(k), STATE);
            Twins.refused("24 the other one alone was kept " + k, x -> {
                States.begun(x);
                x.image(1 - k);
                x.go(2);
            }, x -> x.restore(k), STATE);
        }
    }

    private static void kind() {
        for (int side : new int[] {-1, 2, HIGH, LOW}) {
            bad("25 SIDE " + side, x -> x.kind(side, 0));
        }
        for (int p : new int[] {-1, 8, HIGH, LOW}) {
            bad("25 PULLER " + p, x -> x.kind(1, p));
        }
        unmatched("25 no such PULLER", x -> x.kind(0, 0), BAD);
        full("25 PULLER 2 of SIDE 0", x -> x.kind(0, 2), BAD);
        full("25 PULLER 3 of SIDE 1", x -> x.kind(1, 3), BAD);
        unbegun("25 STATE", x -> x.kind(0, 0), STATE);
        unbegun("25 BAD ahead of STATE", x -> x.kind(0, 2), BAD);
        begun("25 no TENTH", x -> x.kind(0, 1), STATE);
        begun("25 no TENTH, BAD", x -> x.kind(0, 2), BAD);
    }

    private static void as() {
        for (int side : new int[] {-1, 2, HIGH, LOW}) {
            bad("26 SIDE " + side, x -> x.as(side, 0, 0));
        }
        for (int p : new int[] {-1, 8, HIGH, LOW}) {
            bad("26 PULLER " + p, x -> x.as(1, p, 0));
        }
        for (int kind : new int[] {-1, 6, HIGH, LOW}) {
            bad("26 KIND " + kind, x -> x.as(0, 0, kind));
        }
        unmatched("26 no such PULLER", x -> x.as(0, 0, 0), BAD);
        full("26 PULLER 2 of SIDE 0", x -> x.as(0, 2, 0), BAD);
        full("26 PULLER 3 of SIDE 1", x -> x.as(1, 3, 0), BAD);
        for (int k = 0; k < 6; k++) {
            int kind = k;
            unbegun("26 STATE", x -> x.as(0, 0, kind), STATE);
            begun("26 no TENTH", x -> x.as(0, 0, kind), STATE);
        }
        full("26 KIND: one that held is no heaved one", x -> x.as(0, 1, 2), KIND);
        full("26 KIND: nor a rested one", x -> x.as(0, 1, 4), KIND);
        full("26 KIND: nor a spent one", x -> x.as(0, 1, 5), KIND);
    }

    private static void ask() {
        for (int side : new int[] {-1, 2, HIGH, LOW}) {
            bad("27 SIDE " + side, x -> x.ask(side, 0, 0));
        }
        for (int p : new int[] {-1, 8, HIGH, LOW}) {
            bad("27 PULLER " + p, x -> x.ask(1, p, 0));
        }
        for (int what : new int[] {-1, 2, HIGH, LOW}) {
            bad("27 what " + what, x -> x.ask(0, 0, what));
        }
        unmatched("27 no such PULLER", x -> x.ask(0, 0, 0), BAD);
        full("27 PULLER 2 of SIDE 0", x -> x.ask(0, 2, 0), BAD);
        full("27 PULLER 3 of SIDE 1", x -> x.ask(1, 3, 1), BAD);
        for (int k = 0; k < 2; k++) {
            int what = k;
            unbegun("27 STATE", x -> x.ask(0, 0, what), STATE);
            begun("27 no TENTH", x -> x.ask(0, 0, what), STATE);
            Twins.refused("27 a TRACE that stays", x -> {
                States.full(x);
                x.begin(0);
            }, x -> x.ask(0, 0, what), STATE);
        }
    }

    private static void count() {
        for (int what : new int[] {-1, 8, HIGH, LOW}) {
            bad("29 what " + what, x -> x.count(what));
        }
    }

    /** What asks alone changes nothing: the PULL at hand, GRIPS stay behind what is foretold, too. */
    private static void questions() {
        for (Twins.Calls ahead : new Twins.Calls[] {x -> { }, States::matched, States::begun, States::full, States::won,
            States::sixteen}) {
            Twins.asked("8", ahead, HeelsIn::fault);
            Twins.asked("9", ahead, x -> x.puller(1, 0, 3));
            Twins.asked("13", ahead, x -> x.pull(5));
            Twins.asked("14", ahead, x -> x.doing(1, 0, 2));
            Twins.asked("15", ahead, x -> x.later(3, 2));
            Twins.asked("16", ahead, x -> x.three(200, 3));
            Twins.asked("16, one PULL", ahead, x -> x.three(1, 0));
            Twins.asked("17", ahead, x -> x.together(1, 3, 0));
            Twins.asked("18", ahead, x -> x.stands(1, -1));
            Twins.asked("18, a place", ahead, x -> x.stands(0, 1));
            Twins.asked("19", ahead, x -> x.chosen(400, 4, 0));
            Twins.asked("20", ahead, x -> x.game(9, 8, 20, 0));
            Twins.asked("22", ahead, x -> x.read(1));
            Twins.asked("25", ahead, x -> x.kind(0, 0));
            Twins.asked("28", ahead, x -> x.trace(0));
            Twins.asked("29", ahead, x -> x.count(7));
            Twins.asked("30", ahead, HeelsIn::status);
        }
    }
}
