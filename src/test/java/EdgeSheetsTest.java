/** Section 1, SHEETS, and Promises 1 to 5, 30: each sentence with an edge, just inside and just outside. */
public final class EdgeSheetsTest {
    private static final int NONE = HeelsIn.NONE, BAD = HeelsIn.BAD, STATE = HeelsIn.STATE;
    private static final int NULL = -1000011, PLACE = -1000012, SIZE = -1000014, STORE = -1000015;
    private static final int HIGH = Integer.MAX_VALUE, LOW = Integer.MIN_VALUE;

    private EdgeSheetsTest() {
    }

    public static void main(String[] args) {
        constants();
        noMatch();
        missingAtFirst();
        eightSheets();
        fortyItems();
        zeroAtFirst();
        inPlaceOfWhatIsThere();
        lowestBits();
        keptAsCut();
        copiedAsTheyWere();
        copiedToTheEnds();
        copiedOfEachLane();
        droppedHowMany();
        findings();
        statusOfTheLatest();
        statusOfOthers();
        Due.end("EdgeSheetsTest");
    }

    private static void is(String call, long got, long want) {
        Due.is(call, got, want);
    }

    private static void constants() {
        is("NONE", NONE, -1000000);
        is("BAD", BAD, -1000001);
        is("STATE", STATE, -1000002);
        is("FULL", HeelsIn.FULL, -1000003);
    }

    /** "No MATCH." */
    private static void noMatch() {
        HeelsIn x = new HeelsIn();
        for (int what = 0; what < 8; what++) {
            is("1 count " + what, x.count(what), 0);
        }
        is("1 fault", x.fault(), 0);
        is("1 status", x.status(), 0);
        is("1 begin", x.begin(0), STATE);
        is("1 three", x.three(1, 3), STATE);
        is("1 chosen", x.chosen(2000, 16, 0), STATE);
        is("1 image", x.image(1), STATE);
        is("1 restore", x.restore(1), STATE);
        is("1 go", x.go(1), STATE);
        is("1 read", x.read(1), STATE);
        is("1 together", x.together(0, 0, 0), BAD);
        is("1 stands", x.stands(0, 0), BAD);
        for (int i = 0; i < 17; i++) {
            is("1 trace", x.trace(i), NONE);
        }
        is("1 a GAME needs none", x.game(2, 0, 1, 0), 2);
        for (int side = 0; side < 2; side++) {
            for (int p = 0; p < 8; p++) {
                is("1 puller", x.puller(side, p, 0), BAD);
                is("1 doing", x.doing(side, p, 0), BAD);
                is("1 kind", x.kind(side, p), BAD);
                is("1 as", x.as(side, p, 0), BAD);
                is("1 ask", x.ask(side, p, 0), BAD);
            }
        }
    }

    /** "SHEETS 0 .. 7 are missing (at first)". */
    private static void missingAtFirst() {
        HeelsIn x = new HeelsIn();
        for (int sheet = 0; sheet < 8; sheet++) {
            is("1 drop " + sheet, x.drop(sheet), NULL);
            is("1 set " + sheet, x.set(sheet, 0, 0), NULL);
            is("1 copy " + sheet, x.copy(sheet, 0, sheet, 0, 0), NULL);
            is("1 left " + sheet, x.left(sheet, 0, 1, 1, 2, 0), NULL);
        }
        is("1 drop 8", x.drop(8), BAD);
        is("1 drop -1", x.drop(-1), BAD);
        is("1 count 0", x.count(0), 0);
    }

    /** Each of the eight has ITEMS of its own. */
    private static void eightSheets() {
        HeelsIn x = new HeelsIn();
        for (int sheet = 0; sheet < 8; sheet++) {
            is("2 sheet " + sheet, x.sheet(sheet, sheet % 3, sheet + 1), sheet + 1);
            is("29 count " + sheet, x.count(0), sheet + 1);
            is("3 last of " + sheet, x.set(sheet, sheet, 10 + sheet), 10 + sheet);
            is("3 beyond " + sheet, x.set(sheet, sheet + 1, 0), PLACE);
        }
        for (int sheet = 0; sheet < 8; sheet++) {
            is("3 last of " + sheet + " is kept", value(x, sheet, sheet), 10 + sheet);
            is("5 drop " + sheet, x.drop(sheet), sheet + 1);
            is("29 count without " + sheet, x.count(0), 7 - sheet);
        }
    }

    /** Of an ITEM from 1 to 40: by left(), one FORCE, with (h and b) by 2 that goes up. */
    private static int value(HeelsIn x, int sheet, int i) {
        int at = 0;
        while (at < 40 && x.left(sheet, i, 1, at + 1, at + 2, 0) == 1020) {
            at++;
        }
        return at;
    }

    /** "0 to 40 ITEMS": n above 40 is BAD, n below 0 is SIZE. */
    private static void fortyItems() {
        HeelsIn x = new HeelsIn();
        for (int lane = 0; lane < 3; lane++) {
            is("2 SIZE", x.sheet(5, lane, -1), SIZE);
            is("2 n 0", x.sheet(5, lane, 0), 0);
            is("3 of none", x.set(5, 0, 1), PLACE);
            is("2 n 1", x.sheet(5, lane, 1), 1);
            is("3 of one", x.set(5, 0, 1), 1);
            is("3 beyond one", x.set(5, 1, 1), PLACE);
            is("2 n 40", x.sheet(5, lane, 40), 40);
            is("3 the last", x.set(5, 39, 1), 1);
            is("3 beyond the last", x.set(5, 40, 1), PLACE);
            is("3 ahead of the first", x.set(5, -1, 1), PLACE);
            is("2 n 41", x.sheet(5, lane, 41), BAD);
            is("5 forty", x.drop(5), 40);
        }
        is("2 LANE 3", x.sheet(5, 3, 1), BAD);
        is("2 LANE -1", x.sheet(5, -1, 1), BAD);
    }

    /** "0 at first": so are ITEMS of a SHEET that is laid anew, less, or more of them. */
    private static void zeroAtFirst() {
        int[] sizes = {40, 10, 40, 1, 39};
        for (int lane = 0; lane < 3; lane++) {
            HeelsIn x = new HeelsIn();
            Due.match(x, States.FIRST);
            for (int n : sizes) {
                x.sheet(1, lane, n);
                for (int i = 0; i < n; i++) {
                    is("2 ITEM " + i + " of " + n + " is not above 0", x.left(1, i, 1, 1, 2, 0), 1023);
                }
                x.begin(0);
                is("2 nor below 0", x.told(1, 0, n / 2 > 20 ? 20 : Math.max(1, n / 2)), n > 1 ? n / 2 : PLACE);
                for (int i = 0; i < n; i++) {
                    x.set(1, i, 100);
                }
                if (n == 10) {
                    x.drop(1);
                }
            }
        }
    }

    /** "in place of what is there": the LANE, too, and how many there are. */
    private static void inPlaceOfWhatIsThere() {
        HeelsIn x = new HeelsIn();
        is("2 ints", x.sheet(2, 2, 3), 3);
        is("3 as an int", x.set(2, 0, 70000), 70000);
        is("2 bytes", x.sheet(2, 0, 5), 5);
        is("3 as a byte", x.set(2, 4, 70000), 112);
        is("29 one", x.count(0), 1);
        is("2 shorts", x.sheet(2, 1, 2), 2);
        is("3 as a short", x.set(2, 1, 70000), 4464);
        is("3 two alone", x.set(2, 2, 0), PLACE);
        is("5 two", x.drop(2), 2);
        is("2 after drop", x.sheet(2, 1, 4), 4);
        is("29 one again", x.count(0), 1);
    }

    /** "its lowest bits, as many as the LANE has (read with their sign)". */
    private static void lowestBits() {
        HeelsIn x = new HeelsIn();
        for (int lane = 0; lane < 3; lane++) {
            x.sheet(lane, lane, 40);
        }
        int[][] cut = {
            // What is set, and what it is as a byte, a short.
            {0, 0, 0}, {1, 1, 1}, {-1, -1, -1}, {127, 127, 127}, {128, -128, 128}, {129, -127, 129}, {255, -1, 255}, {256, 0, 256},
            {-128, -128, -128}, {-129, 127, -129}, {-255, 1, -255}, {-256, 0, -256}, {-257, -1, -257}, {32767, -1, 32767},
            {32768, 0, -32768}, {32769, 1, -32767}, {65535, -1, -1}, {65536, 0, 0}, {65537, 1, 1}, {-32768, 0, -32768},
            {-32769, -1, 32767}, {-65536, 0, 0}, {HIGH, -1, -1}, {LOW, 0, 0}, {LOW + 1, 1, 1}, {HIGH - 127, -128, -128},
        };
        for (int k = 0; k < cut.length; k++) {
            is("3 byte of " + cut[k][0], x.set(0, k, cut[k][0]), cut[k][1]);
            is("3 short of " + cut[k][0], x.set(1, k, cut[k][0]), cut[k][2]);
            is("3 int of " + cut[k][0], x.set(2, k, cut[k][0]), cut[k][0]);
        }
    }

    /** "ITEM i becomes v .. what it is then": what is kept is what was answered. */
    private static void keptAsCut() {
        HeelsIn x = new HeelsIn();
        Due.match(x, States.FIRST);
        x.begin(0);
        x.sheet(0, 0, 2);
        x.set(0, 0, 257);
        x.set(0, 1, -254);
        is("12 1 and 2", x.told(0, 0, 1), 1);
        is("15 heave", x.later(0, 0), 1);
        is("15 counter", x.later(0, 1), 2);
        x.sheet(1, 1, 2);
        x.set(1, 0, 65537);
        x.set(1, 1, -65533);
        is("12 1 and 3", x.told(1, 0, 1), 1);
        is("15 heave of shorts", x.later(0, 0), 1);
        is("15 rest of shorts", x.later(0, 1), 3);
        x.set(0, 0, 200);
        is("21 a byte of 200 is below 0", x.left(0, 0, 1, 1, 2, 0), 1023);
        x.sheet(2, 2, 1);
        x.set(2, 0, 200);
        is("21 an int of 200 is 200", x.left(2, 0, 1, 199, 201, 0), 1020);
        is("21 and no more", x.left(2, 0, 1, 201, 202, 0), 1023);
    }

    /** "as they were ahead": where both are one SHEET, forth and back, by one and by more. */
    private static void copiedAsTheyWere() {
        for (int by = 1; by <= 5; by++) {
            HeelsIn forth = tenItems();
            HeelsIn back = tenItems();
            is("4 forth by " + by, forth.copy(0, 0, 0, by, 10 - by), 10 - by);
            is("4 back by " + by, back.copy(0, by, 0, 0, 10 - by), 10 - by);
            for (int i = 0; i < 10; i++) {
                is("4 forth by " + by + " at " + i, value(forth, 0, i), i < by ? i + 1 : i - by + 1);
                is("4 back by " + by + " at " + i, value(back, 0, i), i < 10 - by ? i + by + 1 : i + 1);
            }
        }
        HeelsIn x = tenItems();
        is("4 onto itself", x.copy(0, 0, 0, 0, 10), 10);
        for (int i = 0; i < 10; i++) {
            is("4 onto itself at " + i, value(x, 0, i), i + 1);
        }
    }

    private static HeelsIn tenItems() {
        HeelsIn x = new HeelsIn();
        Due.lay(x, 0, 1, 1, 2, 3, 4, 5, 6, 7, 8, 9, 10);
        return x;
    }

    /** "PLACE (i, j, n below 0, or beyond an end)": up to an end is well, none at an end, too. */
    private static void copiedToTheEnds() {
        HeelsIn x = tenItems();
        x.sheet(1, 1, 4);
        x.sheet(2, 1, 0);
        is("4 the last four", x.copy(0, 6, 1, 0, 4), 4);
        for (int i = 0; i < 4; i++) {
            is("4 the last four at " + i, value(x, 1, i), 7 + i);
        }
        is("4 to the last one", x.copy(0, 0, 1, 3, 1), 1);
        is("4 at the last one", value(x, 1, 3), 1);
        is("4 ahead of it", value(x, 1, 2), 9);
        is("4 beyond a", x.copy(0, 7, 1, 0, 4), PLACE);
        is("4 beyond b", x.copy(0, 6, 1, 1, 4), PLACE);
        is("4 five", x.copy(0, 0, 1, 0, 5), PLACE);
        is("4 none at the ends", x.copy(0, 10, 1, 4, 0), 0);
        is("4 none beyond the end of a", x.copy(0, 11, 1, 4, 0), PLACE);
        is("4 none beyond the end of b", x.copy(0, 10, 1, 5, 0), PLACE);
        is("4 none of none", x.copy(2, 0, 2, 0, 0), 0);
        is("4 none to none", x.copy(0, 10, 2, 0, 0), 0);
        is("4 one to none", x.copy(0, 0, 2, 0, 1), PLACE);
        is("4 one of none", x.copy(2, 0, 0, 0, 1), PLACE);
        is("4 i -1", x.copy(0, -1, 1, 0, 1), PLACE);
        is("4 j -1", x.copy(0, 0, 1, -1, 1), PLACE);
        is("4 n -1", x.copy(0, 1, 1, 1, -1), PLACE);
        is("4 sums that wrap around", x.copy(0, HIGH, 1, HIGH, HIGH), PLACE);
        is("4 ahead of it still", value(x, 1, 2), 9);
        HeelsIn y = new HeelsIn();
        y.sheet(0, 0, 40);
        y.sheet(7, 0, 40);
        y.set(0, 0, 5);
        y.set(0, 39, 6);
        is("4 all forty", y.copy(0, 0, 7, 0, 40), 40);
        is("4 the first of forty", value(y, 7, 0), 5);
        is("4 the last of forty", value(y, 7, 39), 6);
        is("4 forty-one", y.copy(0, 0, 7, 0, 41), PLACE);
    }

    /** "STORE (SHEETS of two LANES)": of one LANE all is well. */
    private static void copiedOfEachLane() {
        for (int a = 0; a < 3; a++) {
            for (int b = 0; b < 3; b++) {
                HeelsIn x = new HeelsIn();
                x.sheet(0, a, 2);
                x.sheet(1, b, 2);
                x.set(0, 0, 40);
                is("4 LANES " + a + ", " + b, x.copy(0, 0, 1, 1, 1), a == b ? 1 : STORE);
                is("30 LANES " + a + ", " + b, x.status(), a == b ? 0 : 5);
                is("4 what came", value(x, 1, 1), a == b ? 40 : 0);
                is("4 none of LANES " + a + ", " + b, x.copy(0, 0, 1, 1, 0), a == b ? 0 : STORE);
                is("4 a stays", value(x, 0, 0), 40);
            }
        }
    }

    /** "A SHEET is missing from now on: how many ITEMS it had." */
    private static void droppedHowMany() {
        HeelsIn x = new HeelsIn();
        for (int n : new int[] {0, 1, 39, 40}) {
            x.sheet(4, 2, n);
            x.sheet(5, 2, n);
            is("5 " + n, x.drop(4), n);
            is("5 again", x.drop(4), NULL);
            is("3 missing", x.set(4, 0, 0), NULL);
            is("4 missing a", x.copy(4, 0, 5, 0, 0), NULL);
            is("4 missing b", x.copy(5, 0, 4, 0, 0), NULL);
            is("21 missing", x.left(4, 0, 1, 1, 2, 0), NULL);
            is("29 the other", x.count(0), 1);
        }
    }

    /** "-1000010 less 1 NULL, 2 PLACE, 3 KIND, 4 SIZE, 5 STORE". */
    private static void findings() {
        HeelsIn x = new HeelsIn();
        Due.match(x, States.FIRST);
        x.begin(0);
        x.go(1);
        x.sheet(0, 0, 1);
        x.sheet(1, 1, 1);
        is("1 NULL", x.drop(2), -1000011);
        is("30 NULL", x.status(), 1);
        is("2 PLACE", x.set(0, 1, 0), -1000012);
        is("30 PLACE", x.status(), 2);
        is("3 KIND", x.as(0, 0, 5), -1000013);
        is("30 KIND", x.status(), 3);
        is("4 SIZE", x.sheet(0, 0, -1), -1000014);
        is("30 SIZE", x.status(), 4);
        is("5 STORE", x.copy(0, 0, 1, 0, 1), -1000015);
        is("30 STORE", x.status(), 5);
    }

    /** "Of the latest call with a SHEET, or as(), that was not BAD, STATE, FULL .. 0: it had none". */
    private static void statusOfTheLatest() {
        Twins.Call[] well = {
            x -> x.sheet(5, 0, 2), x -> x.set(0, 0, 1), x -> x.copy(0, 0, 0, 1, 1), x -> x.drop(4), x -> x.told(0, 0, 1),
            x -> x.told(0, 0, 2), x -> x.left(0, 0, 1, 1, 2, 0), x -> x.left(0, 0, 1, 1, 2, 2), x -> x.as(0, 0, 0),
        };
        Twins.Call[] found = {
            x -> x.drop(6), x -> x.set(0, -1, 0), x -> x.as(0, 0, 5), x -> x.sheet(0, 0, -1), x -> x.copy(0, 0, 1, 0, 0),
            x -> x.told(6, 0, 1), x -> x.left(0, -1, 1, 1, 2, 0),
        };
        Twins.Call[] refused = {
            x -> x.sheet(8, 0, 0), x -> x.set(8, 0, 0), x -> x.copy(8, 0, 0, 0, 0), x -> x.drop(8), x -> x.told(8, 0, 1),
            x -> x.told(0, 4, 1), x -> x.left(8, 0, 1, 1, 2, 0), x -> x.as(0, 0, 6), x -> x.as(0, 7, 0),
        };
        int[] numbers = {1, 2, 3, 4, 5, 1, 2};
        for (int f = 0; f < found.length; f++) {
            for (int w = 0; w < well.length; w++) {
                HeelsIn x = lively();
                found[f].of(x);
                is("30 finding " + f, x.status(), numbers[f]);
                for (int r = 0; r < refused.length; r++) {
                    is("30 BAD " + r, refused[r].of(x), BAD);
                    is("30 finding " + f + " stays behind BAD " + r, x.status(), numbers[f]);
                }
                is("30 well " + w, well[w].of(x) >= NONE ? 1 : 0, 1);
                is("30 status behind well " + w, x.status(), 0);
                refused[w].of(x);
                is("30 it stays, too", x.status(), 0);
            }
        }
    }

    /** A PULL with a TENTH; SHEET 0 has four ITEMS that can be told, and a fifth and sixth that can't. */
    private static HeelsIn lively() {
        HeelsIn x = new HeelsIn();
        Due.match(x, States.FIRST);
        x.begin(0);
        x.go(1);
        Due.lay(x, 0, 0, 0, 0, 1, 2, 9, -1);
        x.sheet(1, 1, 3);
        x.sheet(4, 2, 3);
        return x;
    }

    /** Calls without a SHEET leave it as it is, STATE of told() and as(), too. */
    private static void statusOfOthers() {
        HeelsIn x = lively();
        x.set(0, 40, 0);
        x.feed('s', 1);
        x.puller(0, 0, 0);
        x.go(1);
        x.pull(0);
        x.doing(0, 0, 0);
        x.later(0, 0);
        x.three(1, 0);
        x.together(0, 0, 0);
        x.stands(0, 0);
        x.chosen(100, 1, 0);
        x.game(1, 1, 1, 0);
        x.read(0);
        x.image(0);
        x.restore(0);
        x.kind(0, 0);
        x.ask(0, 0, 0);
        x.trace(0);
        x.count(0);
        x.begin(1);
        is("30 as they do not tell", x.status(), 2);
        is("26 STATE", x.as(0, 0, 1), STATE);
        is("30 STATE of as()", x.status(), 2);
        x.match();
        x.fault();
        is("30 a FAULT", x.status(), 2);
        Due.match(x, States.SECOND);
        is("12 STATE", x.told(0, 0, 1), STATE);
        is("30 STATE of told()", x.status(), 2);
        for (int k = 0; k < 88; k++) {
            x.feed(0, 8);
        }
        is("30 FULL", x.status(), 2);
    }
}
