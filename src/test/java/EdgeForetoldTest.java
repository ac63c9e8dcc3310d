import java.util.Random;

/** Section 3, THREE to READ, and Promises 16 to 24: each sentence with an edge, just inside and just outside. */
public final class EdgeForetoldTest {
    private static final int NONE = HeelsIn.NONE, BAD = HeelsIn.BAD, STATE = HeelsIn.STATE;
    private static final int MOST = Integer.MAX_VALUE;

    private EdgeForetoldTest() {
    }

    public static void main(String[] args) {
        threeOfOneToTwoHundred();
        threeByThread();
        threeTillOneHasWon();
        threeWhoMost();
        threeGripsAsTold();
        threeAsThreePulls();
        threeByRules();
        togetherAtEachTenth();
        togetherOfSeveralTheFirst();
        togetherUpToTenthFive();
        togetherPractised();
        standsByPlace();
        standsLastPlace();
        standsOfSeveralTheFirst();
        standsByWeight();
        standsNotSoMany();
        chosenWithin();
        chosenAtMost();
        chosenOfSeveralTheLeast();
        chosenOfBothSides();
        gameOfNoTenth();
        gameOfOneTenth();
        gameOfTwoTenths();
        gameOfTwentyTenths();
        leftByHalf();
        leftOfHolds();
        leftOfBursts();
        leftOfOneToTwenty();
        leftOfPlaces();
        readOfOneToThirty();
        readFewerThanKept();
        readAsFarAsKept();
        readOfEachSide();
        imagesOfEachKind();
        imagesOfSixteen();
        imagesAreCopies();
        imagesAreTwo();
        Due.end("EdgeForetoldTest");
    }

    private static void is(String call, long got, long want) {
        Due.is(call, got, want);
    }

    /** PULLERS of one HOLD together, BURST twice that, all BREATH, no LAG. */
    private static String holding(int sum) {
        StringBuilder side = new StringBuilder("side;");
        for (int rest = sum; rest > 0; rest -= 200) {
            int hold = Math.min(200, rest);
            side.append("puller 80 ").append(hold).append(' ').append(2 * hold).append(" 60 0;");
        }
        return side.toString();
    }

    /** "n 1 to 200": who rests for 199 TENTHS, and heaves in the 200th, wins by it alone. */
    private static void threeOfOneToTwoHundred() {
        String late = holding(100) + "when tenth below 199 rest;when tenth above 198 heave;";
        String alike = holding(100) + "when tenth above -1 rest;";
        HeelsIn x = Due.of(late + alike);
        HeelsIn y = Due.of(alike + late);
        for (int what = 0; what < 4; what++) {
            is("16 200 TENTHS: " + what, x.three(200, what), 0);
            is("16 199 TENTHS: " + what, x.three(199, what), NONE);
            is("16 turned, 200: " + what, y.three(200, what), 1);
            is("16 turned, 199: " + what, y.three(199, what), NONE);
            is("16 201: " + what, x.three(201, what), BAD);
            is("16 0: " + what, x.three(0, what), BAD);
        }
        HeelsIn z = Due.of(holding(200) + holding(100));
        is("16 one TENTH", z.three(1, 0), 0);
        HeelsIn one = Due.of(holding(100) + "when tenth above 0 heave;" + holding(100));
        is("16 one TENTH alone", one.three(1, 0), NONE);
        is("16 two TENTHS", one.three(2, 0), 0);
    }

    /** "not WON: SIDE 0 wins by THREAD above 0, 1 below; 0: nobody". */
    private static void threeByThread() {
        int[][] holds = {{199, 100, NONE}, {200, 100, 0}, {100, 199, NONE}, {100, 200, 1}, {150, 150, NONE}, {10, 200, 1}, {200, 10, 0}};
        for (int[] h : holds) {
            HeelsIn x = Due.of(holding(h[0]) + holding(h[1]) + "ground 100 0 99;");
            for (int what = 0; what < 4; what++) {
                is("16 " + h[0] + " against " + h[1] + ": " + what, x.three(1, what), h[2]);
                is("16 ten TENTHS of " + h[0] + " against " + h[1] + ": " + what, x.three(10, what), h[2]);
            }
        }
        // One up by 1, then down by 1: THREAD is 0 again.
        HeelsIn x = Due.of(holding(100) + "when tenth below 1 heave;when tenth above 1 rest;" + holding(100) + "when tenth above 2 rest;");
        is("16 THREAD 1", x.three(2, 3), 0);
        is("16 THREAD 1 still", x.three(3, 3), 0);
        HeelsIn y = Due.of(holding(100) + "when tenth below 1 heave;" + holding(100) + "when thread below 0 heave;");
        is("16 up", y.three(1, 3), 0);
        is("16 down", y.three(2, 3), NONE);
    }

    /** Who has WON goes on winning, whatever it would do later: FAR 3 in one TENTH. */
    private static void threeTillOneHasWon() {
        String first = holding(400) + "when tenth below 1 heave;when tenth above 0 rest;";
        HeelsIn x = Due.of(first + holding(500) + "ground 100 0 3;");
        HeelsIn y = Due.of(first + holding(500) + "ground 100 0 4;");
        HeelsIn z = Due.of(holding(500) + first + "ground 100 0 3;");
        for (int what = 0; what < 4; what++) {
            is("16 WON at FAR: " + what, x.three(50, what), 0);
            is("16 not at FAR: " + what, y.three(50, what), 1);
            is("16 WON at -FAR: " + what, z.three(50, what), 1);
        }
    }

    private static void three(String name, String text, int n, int... due) {
        HeelsIn x = Due.of(text);
        for (int what = 0; what < 4; what++) {
            is("16 " + name + ": " + what, x.three(n, what), due[what]);
        }
        is("16 " + name + ": 4", x.three(n, 4), BAD);
        is("16 " + name + ": -1", x.three(n, -1), BAD);
    }

    /** "who wins more of them": two to one, one to none, two to none; one to one is nobody, as none to none. */
    private static void threeWhoMost() {
        String heaver = "side;puller 80 9 200 60 0;when tenth above -1 heave;";
        // 200, 200, 160 against 100, 80, 80.
        three("0, 0, nobody", heaver + holding(100) + "ground 100 20 99;", 1, 0, 0, NONE, 0);
        three("1, 1, nobody", holding(100) + heaver + "ground 100 20 99;", 1, 1, 1, NONE, 1);
        // Both wear their ENDS: 200 less 100, then of 80, then of 60.
        String half = "side;puller 80 9 100 60 0;when tenth above -1 heave;";
        three("0, nobody, nobody", heaver + half + "ground 100 20 99;", 1, 0, NONE, NONE, 0);
        three("1, nobody, nobody", half + heaver + "ground 100 20 99;", 1, 1, NONE, NONE, 1);
        String eightHeave = "side;" + "puller 80 9 400 60 0;".repeat(8) + "when tenth above -1 heave;";
        // 3200, 2560, 1920, 1280 against 1600; then against 320; then 640, 32, 32, 32 against 320.
        three("0, 0, 1", eightHeave + holding(1600) + "ground 100 20 99;", 4, 0, 0, 1, 0);
        three("1, 1, 0", holding(1600) + eightHeave + "ground 100 20 99;", 4, 1, 1, 0, 1);
        String once = "side;puller 80 100 200 60 0;when tenth below 5 heave;";
        String hold = "side;puller 80 150 150 60 0;";
        three("1, 0, nobody", once + hold + "ground 100 20 99;", 200, 1, 0, NONE, NONE);
        three("0, 1, nobody", hold + once + "ground 100 20 99;", 200, 0, 1, NONE, NONE);
        three("nobody at all", holding(100) + holding(100), 9, NONE, NONE, NONE, NONE);
        three("0, 0, 0", holding(200) + holding(100), 9, 0, 0, 0, 0);
        three("1, 1, 1", holding(100) + holding(200), 9, 1, 1, 1, 1);
    }

    /** "GRIPS as told in the text at first", "(The PULL at hand, GRIPS stay.)". */
    private static void threeGripsAsTold() {
        String heaver = "side;puller 80 9 200 60 0;when tenth above -1 heave;";
        HeelsIn x = Due.of(heaver + holding(100) + "ground 100 20 99;");
        int first = x.three(1, 2);
        x.begin(1);
        x.go(4);
        int[] due = {0, 0, NONE, 0};
        for (int k = 0; k < 2; k++) {
            for (int what = 0; what < 4; what++) {
                is("16 as told, though worn: " + what, x.three(1, what), due[what]);
            }
            is("16 as told, ahead", first, NONE);
            is("13 GRIP of END 1 stays", x.pull(4), 20);
            is("13 GRIP of END 0 stays", x.pull(3), 100);
            is("13 TENTHS stay", x.pull(1), 4);
            is("14 BREATH stays", x.doing(0, 0, 0), 48);
            is("15 kept TENTHS stay", x.later(3, 2), 200);
        }
        x.go(1);
        is("13 it goes on", x.pull(4), 1);
        is("15 by its GRIP", x.later(0, 2), 40);
        HeelsIn y = Due.of(heaver + holding(100) + "ground 100 20 99;");
        y.three(200, 3);
        is("13 no PULL begins by it", y.pull(0), STATE);
        is("29 nor are TENTHS kept", y.count(7), 0);
        y.begin(0);
        is("13 GRIPS are as told", y.pull(3) + y.pull(4), 200);
    }

    /** "PULLS 0, 1 (ENDS changed), 2 (not changed)": as three PULLS that begin so, and as no other three. */
    private static void threeAsThreePulls() {
        int[][] others = {{0, 0, 0}, {1, 0, 0}, {0, 1, 1}, {0, 0, 1}};
        int[] unlike = new int[4];
        for (int seed = 0; seed < 400; seed++) {
            Random random = new Random(seed);
            String text = new Texts(random).text();
            int n = 1 + random.nextInt(seed % 2 == 0 ? 40 : 6);
            HeelsIn x = new HeelsIn();
            if (Due.match(x, text) < 0) {
                continue;
            }
            int[] won = pulls(text, n, new int[] {0, 1, 0});
            for (int what = 0; what < 4; what++) {
                is("16 " + n + " of '" + text + "': " + what, x.three(n, what), won[what]);
            }
            for (int k = 0; k < 4; k++) {
                int[] other = pulls(text, n, others[k]);
                unlike[k] += other[1] != won[1] || other[2] != won[2] ? 1 : 0;
            }
        }
        for (int k = 0; k < 4; k++) {
            is("16 some are unlike those of order " + k, unlike[k] > 0 ? 1 : 0, 1);
        }
    }

    private static int[] pulls(String text, int n, int[] changed) {
        HeelsIn x = Due.of(text);
        int[] won = new int[4];
        int[] wins = new int[2];
        for (int k = 0; k < 3; k++) {
            x.begin(changed[k]);
            for (int gone = 0; gone < n; gone += 100) {
                x.go(Math.min(100, n - gone));
            }
            won[k] = x.pull(2) != NONE ? x.pull(2) : x.pull(0) > 0 ? 0 : x.pull(0) < 0 ? 1 : NONE;
            if (won[k] != NONE) {
                wins[won[k]]++;
            }
        }
        won[3] = wins[0] > wins[1] ? 0 : wins[1] > wins[0] ? 1 : NONE;
        return won;
    }

    /** "by rules": not by what was told in the PULL at hand. */
    private static void threeByRules() {
        HeelsIn x = Due.of("side;puller 80 100 300 60 2;side;puller 80 100 300 60 0;");
        Due.lay(x, 0, 0, 1, 0, 1, 0, 1, 0);
        x.begin(0);
        x.told(0, 0, 3);
        is("13 told to heave", x.pull(0), 2);
        is("16 nobody heaves", x.three(5, 3), NONE);
        x.go(2);
        is("13 what was told goes on", x.pull(0), 6);
    }

    /** "at TENTH 0: FORCE (BURST of those whose LAG is that, HOLD of others, without GRIP) of TENTHS 0 .. 5". */
    private static void togetherAtEachTenth() {
        for (int lag = 0; lag <= 5; lag++) {
            HeelsIn x = Due.of("side;puller 80 200 400 60 " + lag + ";puller 80 7 9 60 " + (lag + 3) % 6 + ";side;puller 80 9 9 60 0;"
                + "ground 1 20 9;");
            is("17 FORCE at " + lag, x.together(0, 0, 0), 407);
            is("17 TENTH " + lag, x.together(0, 0, 1), lag);
            is("17 of SIDE 1", x.together(1, 0, 0), 9);
            x.begin(0);
            x.go(4);
            is("17 in a PULL, too", x.together(0, 0, 0), 407);
        }
        HeelsIn all = Due.of("side;" + "puller 80 200 400 1 5;".repeat(8) + "side;puller 80 1 1 60 0;");
        is("17 the greatest of all", all.together(0, 0, 0), 3200);
        is("17 in the last TENTH", all.together(0, 0, 1), 5);
        is("17 the least of all", all.together(1, 50, 0), 1);
    }

    /** "the greatest, of several the first". */
    private static void togetherOfSeveralTheFirst() {
        for (int first = 0; first <= 5; first++) {
            for (int second = 0; second <= 5; second++) {
                for (int more = -1; more <= 1; more++) {
                    HeelsIn x = Due.of("side;puller 80 50 90 60 " + first + ";puller 80 40 " + (80 + more) + " 60 " + second
                        + ";side;puller 80 9 9 60 0;");
                    boolean one = first == second;
                    int tenth = more > 0 ? second : more < 0 ? first : Math.min(first, second);
                    is("17 LAGS " + first + ", " + second + ", " + more, x.together(0, 0, 1), tenth);
                    is("17 FORCE of them", x.together(0, 0, 0), one ? 170 + more : 130 + Math.max(0, more));
                }
            }
        }
        HeelsIn x = Due.of("side;puller 80 50 50 60 3;side;puller 80 9 9 60 5;");
        is("17 BURST as HOLD: TENTH 0", x.together(0, 0, 1), 0);
        is("17 BURST as HOLD: TENTH 0 of SIDE 1", x.together(1, 0, 1), 0);
    }

    /** "of TENTHS 0 .. 5": each of them has one who bursts below HOLD; none has in TENTH 6. */
    private static void togetherUpToTenthFive() {
        int[][] bursts = {{45, 46, 47, 47, 46, 45}, {49, 46, 47, 47, 46, 45}, {45, 46, 47, 47, 46, 48}, {45, 45, 45, 45, 45, 45}};
        int[] tenths = {2, 0, 5, 0};
        for (int k = 0; k < bursts.length; k++) {
            StringBuilder side = new StringBuilder("side;");
            for (int lag = 0; lag < 6; lag++) {
                side.append("puller 80 50 ").append(bursts[k][lag]).append(" 60 ").append(lag).append(';');
            }
            HeelsIn x = Due.of(side + "side;puller 80 9 9 60 0;");
            is("17 below HOLD in all", x.together(0, 0, 1), tenths[k]);
            is("17 FORCE below HOLD", x.together(0, 0, 0), 250 + bursts[k][tenths[k]]);
        }
        HeelsIn late = Due.of("side;puller 80 50 40 60 0;side;puller 80 9 8 60 5;");
        is("17 TENTH 1 is the first without", late.together(0, 0, 1), 1);
        is("17 TENTH 0 is", late.together(1, 0, 1), 0);
        is("17 FORCE without", late.together(1, 0, 0), 9);
    }

    /** "PRACTISED e evenings (0 to 50): each LAG times 9 by 10, cut, so often". */
    private static void togetherPractised() {
        HeelsIn x = Due.of("side;puller 80 50 90 60 5;side;puller 80 50 90 60 2;");
        int[] of5 = {5, 4, 3, 2, 1, 0, 0, 0};
        int[] of2 = {2, 1, 0, 0, 0, 0, 0, 0};
        for (int e = 0; e < 8; e++) {
            is("17 LAG 5 behind " + e, x.together(0, e, 1), of5[e]);
            is("17 LAG 2 behind " + e, x.together(1, e, 1), of2[e]);
            is("17 FORCE behind " + e, x.together(0, e, 0), 90);
        }
        is("17 e 49", x.together(0, 49, 1), 0);
        is("17 e 50", x.together(0, 50, 1), 0);
        is("17 e 51", x.together(0, 51, 1), BAD);
        is("17 e -1", x.together(0, -1, 1), BAD);
        is("9 LAG stays", x.puller(0, 0, 4), 5);
        HeelsIn y = Due.of("side;puller 80 50 90 60 5;puller 80 50 90 60 1;puller 80 50 90 60 0;side;puller 80 9 9 60 0;");
        int[] forces = {190, 230, 230, 230, 230, 270, 270};
        for (int e = 0; e < 7; e++) {
            is("17 three behind " + e, y.together(0, e, 0), forces[e]);
            is("17 at TENTH 0 behind " + e, y.together(0, e, 1), 0);
        }
    }

    private static String side(int[] bursts, int[] weights) {
        StringBuilder side = new StringBuilder("side;");
        for (int k = 0; k < bursts.length; k++) {
            side.append("puller ").append(weights[k]).append(" 9 ").append(bursts[k]).append(" 60 0;");
        }
        return side.toString();
    }

    private static int[] alike(int n, int value) {
        int[] all = new int[n];
        java.util.Arrays.fill(all, value);
        return all;
    }

    private static void stand(String name, int[] bursts, int[] weights, int... order) {
        String side = side(bursts, weights);
        HeelsIn x = Due.of(side + "side;puller 80 9 9 60 0;");
        HeelsIn y = Due.of("side;puller 80 9 9 60 0;" + side);
        for (int place = 0; place < order.length; place++) {
            is("18 " + name + " at " + place, x.stands(0, place), order[place]);
            is("18 " + name + " at " + place + " of SIDE 1", y.stands(1, place), order[place]);
        }
        is("18 " + name + " beyond", x.stands(0, order.length), NONE);
        int worth = 0;
        int[][] factors = factors();
        for (int place = 0; place < order.length; place++) {
            worth += bursts[order[place]] * factors[order.length][place] + weights[order[place]] * place;
        }
        is("18 " + name + ": WORTH", x.stands(0, -1), worth);
        is("18 " + name + ": WORTH of SIDE 1", y.stands(1, -1), worth);
    }

    /** By how many there are: "100 less 3 times how far p is from 4, of the last place 10 more". */
    private static int[][] factors() {
        return new int[][] {{}, {98}, {88, 101}, {88, 91, 104}, {88, 91, 94, 107}, {88, 91, 94, 97, 110}, {88, 91, 94, 97, 100, 107},
            {88, 91, 94, 97, 100, 97, 104}, {88, 91, 94, 97, 100, 97, 94, 101}};
    }

    /** One to eight PULLERS, all alike but one: it stands where FACTOR is greatest. */
    private static void standsByPlace() {
        for (int n = 1; n <= 8; n++) {
            int[] worths = {0, 9800, 18900, 28300, 38000, 48000, 57700, 67100, 76200};
            HeelsIn x = Due.of(side(alike(n, 100), alike(n, 40)) + "side;puller 80 9 9 60 0;");
            int places = 40 * n * (n - 1) / 2;
            is("18 WORTH of " + n, x.stands(0, -1), worthOf(n) + places);
            is("18 WORTH of " + n + ", again", worthOf(n), worths[n]);
            for (int place = 0; place < n; place++) {
                is("18 alike: place " + place, x.stands(0, place), place);
            }
            is("18 alike: beyond", x.stands(0, n), NONE);
        }
    }

    private static int worthOf(int n) {
        int sum = 0;
        for (int factor : factors()[n]) {
            sum += 100 * factor;
        }
        return sum;
    }

    /** The strongest stands last up to eight; then the one in place 4; places 3 and 5, 2 and 6 are alike. */
    private static void standsLastPlace() {
        int[] alike = alike(8, 40);
        stand("one", new int[] {400}, new int[] {150}, 0);
        stand("two, the first is the stronger", new int[] {90, 50}, alike(2, 40), 1, 0);
        stand("two, the last is the stronger", new int[] {50, 90}, alike(2, 40), 0, 1);
        stand("five", new int[] {50, 40, 30, 20, 10}, alike(5, 40), 4, 3, 2, 1, 0);
        stand("six", new int[] {60, 50, 40, 30, 20, 10}, alike(6, 40), 5, 4, 3, 2, 1, 0);
        stand("seven", new int[] {70, 60, 50, 40, 30, 20, 10}, alike(7, 40), 6, 5, 4, 2, 1, 3, 0);
        stand("eight, from the strongest on", new int[] {80, 70, 60, 50, 40, 30, 20, 10}, alike, 7, 6, 4, 2, 1, 3, 5, 0);
        stand("eight, up to the strongest", new int[] {10, 20, 30, 40, 50, 60, 70, 80}, alike, 0, 1, 2, 4, 6, 5, 3, 7);
        stand("eight of the greatest", alike(8, 400), alike(8, 150), 0, 1, 2, 3, 4, 5, 6, 7);
        stand("eight of the least", alike(8, 1), alike, 0, 1, 2, 3, 4, 5, 6, 7);
    }

    /** "of several the first by places (least PULLERS first)". */
    private static void standsOfSeveralTheFirst() {
        // Of two: 13 times BURST and WEIGHT tells who stands last.
        stand("alike by 13", new int[] {50, 51}, new int[] {63, 50}, 0, 1);
        stand("one less", new int[] {50, 51}, new int[] {63, 49}, 1, 0);
        stand("one more", new int[] {50, 51}, new int[] {63, 51}, 0, 1);
        stand("alike by 13, turned", new int[] {51, 50}, new int[] {50, 63}, 0, 1);
        stand("one more, turned", new int[] {51, 50}, new int[] {50, 64}, 0, 1);
        stand("one less, turned", new int[] {51, 50}, new int[] {50, 62}, 1, 0);
        stand("alike", new int[] {50, 50}, new int[] {50, 50}, 0, 1);
        // Of three: 3 times BURST and WEIGHT in the places 0 and 1.
        stand("three alike by 3", new int[] {51, 50, 90}, new int[] {50, 53, 90}, 0, 1, 2);
        stand("three alike by 3, turned", new int[] {50, 51, 90}, new int[] {53, 50, 90}, 0, 1, 2);
        stand("three, alike in the last places", new int[] {40, 51, 50}, new int[] {40, 50, 63}, 0, 1, 2);
        stand("three, 2 first", new int[] {51, 50, 40}, new int[] {50, 63, 40}, 2, 0, 1);
    }

    /** "and WEIGHT times p": of one BURST the heaviest last. */
    private static void standsByWeight() {
        stand("by WEIGHT", alike(8, 100), new int[] {150, 140, 130, 120, 110, 100, 90, 80}, 7, 6, 5, 4, 3, 2, 1, 0);
        stand("by one WEIGHT", new int[] {100, 100}, new int[] {41, 40}, 1, 0);
        stand("by WEIGHT more than BURST", new int[] {51, 50}, new int[] {40, 54}, 0, 1);
        stand("by BURST more than WEIGHT", new int[] {51, 50}, new int[] {40, 52}, 1, 0);
    }

    /** "NONE: not so many .. BAD: place below -1". */
    private static void standsNotSoMany() {
        HeelsIn x = Due.of(side(alike(8, 100), alike(8, 40)) + side(alike(1, 100), alike(1, 40)));
        is("18 place 7 of eight", x.stands(0, 7), 7);
        is("18 place 8 of eight", x.stands(0, 8), NONE);
        is("18 place 0 of one", x.stands(1, 0), 0);
        is("18 place 1 of one", x.stands(1, 1), NONE);
        is("18 place -1", x.stands(1, -1), 9800);
        is("18 place -2", x.stands(1, -2), BAD);
        is("18 the lowest", x.stands(1, Integer.MIN_VALUE), BAD);
        is("18 the highest", x.stands(0, MOST), NONE);
        is("18 SIDE 2", x.stands(2, 0), BAD);
    }

    private static String holders(int[][] weightsAndHolds, int ofSide0) {
        StringBuilder text = new StringBuilder();
        for (int k = 0; k < weightsAndHolds.length; k++) {
            text.append(k == 0 || k == ofSide0 ? "side;" : "");
            text.append("puller ").append(weightsAndHolds[k][0]).append(' ').append(weightsAndHolds[k][1]).append(" 1 1 0;");
        }
        return text.toString();
    }

    private static int[][] many(int n, int weight, int hold) {
        int[][] all = new int[n][];
        for (int k = 0; k < n; k++) {
            all[k] = new int[] {weight, hold};
        }
        return all;
    }

    /** "of WEIGHTS w at most together", "w (0 to 2000)", "(perhaps none)". */
    private static void chosenWithin() {
        HeelsIn x = Due.of(holders(new int[][] {{100, 50}, {60, 30}, {60, 30}, {40, 20}}, 2));
        int[][] due = {{0, 0, 0}, {39, 0, 0}, {40, 8, 20}, {59, 8, 20}, {60, 2, 30}, {99, 2, 30}, {100, 1, 50}, {119, 1, 50}, {120, 6, 60},
            {139, 6, 60}, {140, 9, 70}, {159, 9, 70}, {160, 3, 80}, {199, 3, 80}, {200, 11, 100}, {219, 11, 100}, {220, 7, 110},
            {259, 7, 110}, {260, 15, 130}, {2000, 15, 130}};
        for (int[] d : due) {
            is("19 w " + d[0], x.chosen(d[0], 16, 0), d[1]);
            is("19 w " + d[0] + ": HOLD", x.chosen(d[0], 16, 1), d[2]);
        }
        is("19 w 2001", x.chosen(2001, 16, 0), BAD);
        is("19 w -1", x.chosen(-1, 16, 0), BAD);
        HeelsIn all = Due.of(holders(many(16, 125, 200), 8));
        is("19 sixteen of 125 are 2000", all.chosen(2000, 16, 0), 65535);
        is("19 sixteen of 125: HOLD", all.chosen(2000, 16, 1), 3200);
        is("19 one less", all.chosen(1999, 16, 0), 32767);
        HeelsIn heavy = Due.of(holders(many(16, 150, 1), 8));
        is("19 of 150", heavy.chosen(2000, 16, 0), 8191);
        is("19 of 150: HOLD", heavy.chosen(2000, 16, 1), 13);
        is("19 one of 150", heavy.chosen(150, 16, 0), 1);
        is("19 none of 150", heavy.chosen(149, 16, 0), 0);
        is("19 none of 150: HOLD", heavy.chosen(149, 16, 1), 0);
    }

    /** "those n at most", "n at most (1 to 16)". */
    private static void chosenAtMost() {
        HeelsIn x = Due.of(holders(many(16, 40, 10), 8));
        for (int n = 1; n <= 16; n++) {
            is("19 n " + n, x.chosen(2000, n, 0), (1 << n) - 1);
            is("19 n " + n + ": HOLD", x.chosen(2000, n, 1), 10 * n);
        }
        is("19 n 0", x.chosen(2000, 0, 0), BAD);
        is("19 n 17", x.chosen(2000, 17, 0), BAD);
        HeelsIn y = Due.of(holders(new int[][] {{40, 10}, {40, 11}, {40, 12}, {80, 24}}, 1));
        is("19 two: the strongest", y.chosen(2000, 2, 0), 12);
        is("19 three", y.chosen(2000, 3, 0), 14);
        is("19 one", y.chosen(2000, 1, 0), 8);
        is("19 one of 79", y.chosen(79, 1, 0), 4);
        is("19 more than there are", y.chosen(2000, 16, 0), 15);
    }

    /** "that HOLD most, of several the least as bits". */
    private static void chosenOfSeveralTheLeast() {
        HeelsIn x = Due.of(holders(new int[][] {{40, 10}, {40, 20}, {80, 30}, {40, 10}, {40, 20}}, 3));
        is("19 30, or 10 and 20", x.chosen(80, 2, 1), 40);
        is("19 20 and 20", x.chosen(80, 2, 0), 18);
        is("19 one of 20", x.chosen(40, 1, 0), 2);
        is("19 one: 30", x.chosen(80, 1, 0), 4);
        HeelsIn y = Due.of(holders(new int[][] {{80, 30}, {40, 10}, {40, 20}}, 2));
        is("19 the one is less than the two", y.chosen(80, 2, 0), 1);
        HeelsIn z = Due.of(holders(new int[][] {{40, 10}, {40, 20}, {80, 30}}, 2));
        is("19 the two are less than the one", z.chosen(80, 2, 0), 3);
        is("19 unless they are too many", z.chosen(80, 1, 0), 4);
        HeelsIn alike = Due.of(holders(many(9, 50, 7), 1));
        is("19 three of nine alike", alike.chosen(199, 9, 0), 7);
    }

    /** "as one row: SIDE 0's, then SIDE 1's". */
    private static void chosenOfBothSides() {
        for (int of0 = 1; of0 <= 8; of0++) {
            for (int of1 = 1; of1 <= 8; of1++) {
                int[][] row = many(of0 + of1, 50, 5);
                row[of0][1] = 9;
                HeelsIn x = Due.of(holders(row, of0));
                is("19 the first of SIDE 1 behind " + of0, x.chosen(2000, 1, 0), 1 << of0);
                row[of0][1] = 5;
                row[of0 - 1][1] = 9;
                HeelsIn y = Due.of(holders(row, of0));
                is("19 the last of SIDE 0 of " + of0, y.chosen(2000, 1, 0), 1 << of0 - 1);
                row[of0 + of1 - 1][1] = 10;
                HeelsIn z = Due.of(holders(row, of0));
                is("19 the last of all", z.chosen(2000, 1, 0), 1 << of0 + of1 - 1);
                is("19 all", z.chosen(2000, 16, 0), (1 << of0 + of1) - 1);
            }
        }
    }

    /** "t TENTHS (0 to 20)", "BEST (1; NONE: t is 0)". */
    private static void gameOfNoTenth() {
        HeelsIn x = new HeelsIn();
        for (int a = 0; a < 10; a++) {
            for (int b = 0; b < 10; b++) {
                is("20 VALUE of none", x.game(a, b, 0, 0), 0);
                is("20 BEST of none", x.game(a, b, 0, 1), NONE);
            }
        }
        is("20 a 10", x.game(10, 9, 1, 0), BAD);
        is("20 b 10", x.game(9, 10, 1, 0), BAD);
        is("20 a -1", x.game(-1, 9, 1, 0), BAD);
        is("20 b -1", x.game(9, -1, 1, 0), BAD);
        is("20 t 21", x.game(9, 9, 21, 0), BAD);
        is("20 t -1", x.game(9, 9, -1, 0), BAD);
        is("20 what 2", x.game(9, 9, 0, 2), BAD);
        is("20 what -1", x.game(9, 9, 20, -1), BAD);
    }

    /** "1 heave (from 2 BREATH on), 2 counter (from 1)": of either, in one TENTH. */
    private static void gameOfOneTenth() {
        HeelsIn x = new HeelsIn();
        for (int a = 0; a < 10; a++) {
            for (int b = 0; b < 10; b++) {
                // 0 BREATH: hold alone; 1: counter, too; 2 and more: heave, too.
                int value = b == 0 ? a < 2 ? 0 : 2 : b == 1 ? 0 : a == 0 ? -2 : -1;
                int best = b == 0 ? a < 2 ? 0 : 1 : b == 1 ? 0 : a == 0 ? 0 : 2;
                is("20 VALUE of " + a + ", " + b, x.game(a, b, 1, 0), value);
                is("20 BEST of " + a + ", " + b, x.game(a, b, 1, 1), best);
            }
        }
    }

    /** "BREATH: hold 1 more .., heave 2 less, counter 1 less", "of several the least": counted by hand for some. */
    private static void gameOfTwoTenths() {
        HeelsIn x = new HeelsIn();
        String[] values = {
            "0 -1 -2 -2 -3 -3 -3 -3 -3 -3", "0 -1 -1 -2 -3 -3 -3 -3 -3 -3", "2 -1 -1 -2 -2 -2 -2 -2 -2 -2", "2 -1 -1 -2 -2 -2 -2 -2 -2 -2",
            "2 -1 -1 -2 -2 -2 -2 -2 -2 -2",
        };
        String[] bests = {
            "0 0 0 0 0 0 0 0 0 0", "0 0 0 0 0 0 0 0 0 0", "1 0 0 0 2 2 2 2 2 2", "1 0 0 0 2 2 2 2 2 2", "1 0 0 0 2 2 2 2 2 2",
        };
        table(x, 2, values, bests);
    }

    private static void table(HeelsIn x, int t, String[] values, String[] bests) {
        for (int a = 0; a < 10; a++) {
            int row = Math.min(a, values.length - 1);
            for (int b = 0; b < 10; b++) {
                is("20 VALUE of " + a + ", " + b + " in " + t, x.game(a, b, t, 0), Integer.parseInt(values[row].split(" ")[b]));
                is("20 BEST of " + a + ", " + b + " in " + t, x.game(a, b, t, 1), Integer.parseInt(bests[row].split(" ")[b]));
            }
        }
    }

    /** All of 3 TENTHS, and of 20, by another program; the longer ones first. */
    private static void gameOfTwentyTenths() {
        HeelsIn x = new HeelsIn();
        String[] values20 = {
            "-12 -13 -13 -14 -15 -15 -16 -17 -17 -18", "-12 -13 -13 -14 -15 -15 -16 -17 -17 -18",
            "-10 -13 -13 -14 -15 -15 -16 -17 -17 -18", "-10 -13 -13 -14 -15 -15 -16 -17 -17 -18",
            "-10 -12 -13 -14 -15 -15 -16 -17 -17 -18",
        };
        String[] bests20 = {"0 0 0 0 0 0 0 0 0 0", "0 0 0 0 0 0 0 0 0 0", "1 0 0 0 0 0 0 0 0 0", "1 0 0 0 0 0 0 0 0 0",
            "1 1 0 0 0 0 0 0 0 0"};
        table(x, 20, values20, bests20);
        String[] values3 = {
            "-1 -1 -2 -3 -3 -4 -5 -5 -5 -5", "-1 -1 -2 -3 -3 -4 -4 -4 -4 -4", "1 -1 -2 -3 -3 -4 -4 -4 -4 -4",
            "1 -1 -2 -3 -3 -3 -3 -3 -3 -3",
        };
        String[] bests3 = {"0 0 0 0 0 0 0 0 0 0", "0 0 0 0 0 0 0 0 0 0", "1 0 0 0 0 0 0 0 0 0", "1 0 0 0 0 2 2 2 2 2"};
        table(x, 3, values3, bests3);
        table(new HeelsIn(), 3, values3, bests3);
        for (int k = 0; k < 100; k++) {
            int a = k / 10;
            int b = k % 10;
            int row = Math.min(a, 4);
            int value = Integer.parseInt(values20[row].split(" ")[b]);
            int best = Integer.parseInt(bests20[row].split(" ")[b]);
            is("20 VALUE, the first that is asked " + k, new HeelsIn().game(a, b, 20, 0), value);
            HeelsIn y = new HeelsIn();
            is("20 BEST, the first that is asked " + k, y.game(a, b, 20, 1), best);
            is("20 BEST of 3 then " + k, y.game(a, b, 3, 1), Integer.parseInt(bests3[Math.min(a, 3)].split(" ")[b]));
            HeelsIn z = new HeelsIn();
            is("20 BEST of 3, the first that is asked " + k, z.game(a, b, 3, 1), Integer.parseInt(bests3[Math.min(a, 3)].split(" ")[b]));
            is("20 BEST of 20 then " + k, z.game(a, b, 20, 1), best);
        }
    }

    /** "each FORCE of h and b together, by 2 (cut), or more was a burst, else a hold". */
    private static void leftByHalf() {
        int[][] halves = {{1, 2, 1}, {1, 3, 2}, {2, 3, 2}, {1, 4, 2}, {3, 4, 3}, {998, 999, 998}, {999, 1000, 999}, {999, 1001, 1000},
            {999, 1999, 1499}, {1, 1999, 1000}, {2, 1999, 1000}, {100, 201, 150}, {100, 200, 150}, {100, 202, 151}};
        for (int[] h : halves) {
            HeelsIn x = new HeelsIn();
            Due.lay(x, 0, 2, h[2] - 1, h[2], h[2] + 1, MOST, Integer.MIN_VALUE, -1, 0);
            int[] which = {1023, 1020, 1020, 1020, 1023, 1023, 1023};
            for (int i = 0; i < which.length; i++) {
                is("21 " + h[0] + ", " + h[1] + " at " + i, x.left(0, i, 1, h[0], h[1], 0), which[i]);
            }
        }
        HeelsIn bytes = new HeelsIn();
        Due.lay(bytes, 0, 0, 127, 128, 126);
        is("21 a byte of 127", bytes.left(0, 0, 1, 126, 128, 0), 1020);
        is("21 a byte of 128 is below 0", bytes.left(0, 1, 1, 126, 128, 0), 1023);
        is("21 a byte of 126", bytes.left(0, 2, 1, 126, 128, 0), 1023);
        HeelsIn shorts = new HeelsIn();
        Due.lay(shorts, 0, 1, 1499, 1498);
        is("21 a short of 1499", shorts.left(0, 0, 1, 999, 1999, 0), 1020);
        is("21 a short of 1498", shorts.left(0, 1, 1, 999, 1999, 0), 1023);
    }

    private static void lefts(String name, String row, int bits, int least, int greatest) {
        HeelsIn x = new HeelsIn();
        x.sheet(3, 1, row.length());
        for (int k = 0; k < row.length(); k++) {
            x.set(3, k, row.charAt(k) == 'b' ? 90 : 50);
        }
        is("21 " + name + " which", x.left(3, 0, row.length(), 50, 90, 0), bits);
        is("21 " + name + " least", x.left(3, 0, row.length(), 50, 90, 1), least);
        is("21 " + name + " greatest", x.left(3, 0, row.length(), 50, 90, 2), greatest);
        is("30 " + name, x.status(), 0);
    }

    /** "hold 1 more, 9 at most". */
    private static void leftOfHolds() {
        for (int n = 1; n <= 20; n++) {
            lefts("holds " + n, "h".repeat(n), 1023, Math.min(9, n), 9);
        }
        lefts("a hold, then a burst", "hb", 1022, 0, 7);
        lefts("nine holds, four bursts", "hhhhhhhhhbbbb", 1023, 1, 1);
        lefts("nine holds, five bursts", "hhhhhhhhhbbbbb", 0, NONE, NONE);
        lefts("eight holds, four bursts", "hhhhhhhhbbbb", 1023, 0, 1);
        lefts("eight holds, four bursts, a hold", "hhhhhhhhbbbbh", 1023, 1, 2);
        lefts("seven holds, four bursts", "hhhhhhhbbbb", 1022, 0, 1);
    }

    /** "burst 2 less": from 2 on; "NONE: none can have". */
    private static void leftOfBursts() {
        lefts("one burst", "b", 1023 - 3, 0, 7);
        lefts("two", "bb", 1023 - 15, 0, 5);
        lefts("three", "bbb", 1023 - 63, 0, 3);
        lefts("four", "bbbb", 1023 - 255, 0, 1);
        lefts("five", "bbbbb", 0, NONE, NONE);
        lefts("four, a hold", "bbbbh", 1023 - 255, 1, 2);
        lefts("four, a hold, one", "bbbbhb", 1 << 9, 0, 0);
        lefts("four, two holds, one", "bbbbhhb", 1023 - 255, 0, 1);
        lefts("none can, though holds follow", "bbbbbhhhhhhhhh", 0, NONE, NONE);
        lefts("a burst, a hold", "bh", 1023 - 3, 1, 8);
    }

    /** "n FORCES (1 to 20)": twenty, one after the other. */
    private static void leftOfOneToTwenty() {
        lefts("eight times a hold and a burst", "hb".repeat(8), 3 << 8, 0, 0);
        lefts("and a hold", "hb".repeat(8) + "h", 3 << 8, 1, 1);
        lefts("nine times", "hb".repeat(9), 0, NONE, NONE);
        lefts("twenty, two holds to a burst", "hhb".repeat(6) + "hh", 1023, 2, 9);
        lefts("twenty: a burst in the last place", "h".repeat(19) + "b", 1023, 7, 7);
        lefts("twenty: bursts in the last places", "h".repeat(15) + "bbbbb", 0, NONE, NONE);
        lefts("twenty: four in the last places", "h".repeat(16) + "bbbb", 1023, 1, 1);
        HeelsIn x = new HeelsIn();
        x.sheet(0, 0, 40);
        is("21 n 20", x.left(0, 20, 20, 50, 90, 0), 1023);
        is("21 n 21", x.left(0, 0, 21, 50, 90, 0), BAD);
        is("21 n 0", x.left(0, 0, 0, 50, 90, 0), BAD);
        is("21 h 0", x.left(0, 0, 1, 0, 90, 0), BAD);
        is("21 h 1000", x.left(0, 0, 1, 1000, 1001, 0), BAD);
        is("21 h 999", x.left(0, 0, 1, 999, 1000, 0), 1023);
        is("21 b as h", x.left(0, 0, 1, 90, 90, 0), BAD);
        is("21 b below h", x.left(0, 0, 1, 90, 89, 0), BAD);
        is("21 b 1999", x.left(0, 0, 1, 1, 1999, 0), 1023);
        is("21 b 2000", x.left(0, 0, 1, 1, 2000, 0), BAD);
        is("21 what 3", x.left(0, 0, 1, 1, 2, 3), BAD);
        is("21 what -1", x.left(0, 0, 1, 1, 2, -1), BAD);
    }

    /** "ITEMS of a SHEET from i on": these alone, up to its end. */
    private static void leftOfPlaces() {
        HeelsIn x = new HeelsIn();
        Due.lay(x, 0, 0, 90, 90, 90, 90, 90, 50, 90, 50);
        is("21 from 0", x.left(0, 0, 5, 50, 90, 0), 0);
        is("21 from 1", x.left(0, 1, 4, 50, 90, 0), 3 << 8);
        is("21 from 5", x.left(0, 5, 3, 50, 90, 0), 1022);
        is("21 from 5, two", x.left(0, 5, 2, 50, 90, 1), 0);
        is("21 the last", x.left(0, 7, 1, 50, 90, 0), 1023);
        is("21 beyond", x.left(0, 7, 2, 50, 90, 0), -1000012);
        is("21 at the end", x.left(0, 8, 1, 50, 90, 0), -1000012);
        is("21 ahead", x.left(0, -1, 1, 50, 90, 0), -1000012);
    }

    private static HeelsIn toldTo(int side, int[] orders) {
        HeelsIn x = Due.of("side;puller 80 9 9 60 0;side;puller 80 9 9 60 0;ground 100 0 99;");
        x.begin(0);
        x.sheet(0, 0, 2);
        for (int order : orders) {
            x.set(0, side, order);
            x.told(0, 0, 1);
        }
        return x;
    }

    private static int[] round(int n, int tenths, int order) {
        int[] orders = new int[tenths];
        for (int k = 0; k < tenths; k += n) {
            orders[k] = order;
        }
        return orders;
    }

    private static void reads(String name, int[] orders, int due) {
        for (int side = 0; side < 2; side++) {
            HeelsIn x = toldTo(side, orders);
            is("22 " + name + " of SIDE " + side, x.read(side), due);
            is("22 " + name + ": the other one", x.read(1 - side), orders.length > 1 ? 1 : NONE);
        }
    }

    /** "the least n (1 to 30 ..)": what comes round after 30 is found, after 31 not. */
    private static void readOfOneToThirty() {
        for (int n = 1; n <= 32; n++) {
            for (int order = 1; order < 4; order++) {
                reads("round of " + n + " by 60", round(n, 60, order), n <= 30 ? n : NONE);
            }
            reads("round of " + n + " just once", round(n, n + 1, 1), n <= 30 ? n : NONE);
        }
        reads("all the same", new int[60], 1);
        reads("the least of several", round(2, 12, 1), 2);
        reads("of 31 and 62, not seen", round(31, 61, 1), NONE);
    }

    /** "fewer than kept TENTHS". */
    private static void readFewerThanKept() {
        reads("of none", new int[0], NONE);
        reads("of one", new int[] {1}, NONE);
        reads("of two alike", new int[] {1, 1}, 1);
        reads("of two unlike", new int[] {1, 0}, NONE);
        reads("of three", new int[] {1, 0, 1}, 2);
        reads("of three unlike", new int[] {1, 0, 2}, NONE);
        reads("of three, the last two alike", new int[] {1, 0, 0}, NONE);
        for (int n = 2; n <= 30; n++) {
            reads("round of " + n + ", one less", round(n, n, 1), NONE);
        }
    }

    /** "in each kept TENTH .. as far as these are kept": the first one, the last one; none that is not kept any more. */
    private static void readAsFarAsKept() {
        for (int n : new int[] {2, 3, 7, 30}) {
            int[] orders = round(n, 60, 1);
            orders[59] = 3;
            reads("unlike in the last of " + n, orders, NONE);
            orders = round(n, 60, 1);
            orders[0] = 3;
            reads("unlike in the first of " + n, orders, NONE);
            int[] more = round(n, 61, 1);
            more[0] = 3;
            reads("the first is not kept any more, of " + n, more, n);
            more[1] = 3;
            reads("the second is, of " + n, more, NONE);
        }
        int[] late = new int[130];
        for (int k = 0; k < 70; k++) {
            late[k] = k % 5 == 0 ? 2 : 1;
        }
        for (int k = 70; k < 130; k++) {
            late[k] = k % 7 == 0 ? 2 : 0;
        }
        reads("the latest sixty alone", late, 7);
    }

    private static void readOfEachSide() {
        HeelsIn x = Due.of("side;puller 80 9 9 60 0;side;puller 80 9 9 60 0;ground 100 0 99;");
        Due.lay(x, 0, 0, 1, 2, 0, 0, 1, 0, 0, 2, 1, 0, 0, 0, 1, 2, 0, 0);
        x.begin(0);
        x.told(0, 0, 8);
        is("22 SIDE 0", x.read(0), 2);
        is("22 SIDE 1", x.read(1), 3);
        x.begin(0);
        is("22 of another PULL", x.read(0), NONE);
        is("22 SIDE 2", x.read(2), BAD);
        is("22 SIDE -1", x.read(-1), BAD);
        HeelsIn y = Due.of("side;puller 80 200 9 60 0;side;puller 80 9 9 60 0;ground 100 0 2;");
        y.begin(0);
        y.go(9);
        is("22 where one has WON", y.read(1), 1);
    }

    /** "of MATCH, GRIPS, the PULL": one of each state is as it was; the tape, SHEETS, TRACE, FAULT stay as they are. */
    private static void imagesOfEachKind() {
        Twins.Calls[] states = {States::matched, States::begun, States::full, States::won, States::sixteen};
        for (Twins.Calls state : states) {
            for (int image = 0; image < 2; image++) {
                int k = image;
                Twins.same("24 as it was, " + k, x -> {
                    state.of(x);
                    x.image(k);
                }, x -> {
                    state.of(x);
                    x.image(k);
                    x.begin(1);
                    x.go(11);
                    x.begin(0);
                    x.go(3);
                    is("24 restored", x.restore(k), 1);
                });
                Twins.same("24 another MATCH, " + k, x -> {
                    state.of(x);
                    x.image(k);
                    x.match();
                    x.restore(k);
                }, x -> {
                    state.of(x);
                    x.image(k);
                    x.match();
                    Due.match(x, "side;puller 150 1 1 1 5;when tenth above -1 rest;side;" + "puller 40 2 2 2 1;".repeat(8)
                        + "when thread above -99 heave;ground 9 8 7;");
                    x.begin(1);
                    x.go(5);
                    x.restore(k);
                });
            }
        }
    }

    /** All of the fullest PULL, asked one by one ahead of image() and behind restore(). */
    private static void imagesOfSixteen() {
        HeelsIn x = new HeelsIn();
        States.sixteen(x);
        int[] kept = answers(x);
        is("13 somebody GAVE", x.pull(5) == NONE ? 0 : 1, 1);
        is("13 GAVE is not the TENTH of it", x.pull(5) == x.pull(6) ? 1 : 0, 0);
        is("29 sixty are kept", x.count(7), 60);
        x.image(1);
        Due.match(x, "side;puller 150 1 1 1 5;side;puller 40 2 2 2 1;");
        x.begin(0);
        x.go(70);
        x.restore(1);
        int[] restored = answers(x);
        for (int k = 0; k < kept.length; k++) {
            is("24 answer " + k + " of sixteen", restored[k], kept[k]);
        }
    }

    private static int[] answers(HeelsIn x) {
        int[] answers = new int[200];
        int at = 0;
        for (int side = 0; side < 2; side++) {
            for (int p = 0; p < 8; p++) {
                answers[at++] = x.doing(side, p, 0);
                answers[at++] = x.doing(side, p, 1);
                answers[at++] = x.doing(side, p, 2);
                answers[at++] = x.puller(side, p, p % 5);
            }
            for (int ago = 0; ago < 60; ago++) {
                answers[at++] = x.later(ago, side == 0 ? ago % 5 : (ago + 2) % 5);
            }
        }
        for (int what = 0; what < 7; what++) {
            answers[at++] = x.pull(what);
        }
        return answers;
    }

    /** What goes on behind image() and restore() changes no IMAGE. */
    private static void imagesAreCopies() {
        HeelsIn x = Due.of("side;puller 80 100 200 60 1;side;puller 80 90 190 60 2;ground 90 7 99;");
        Due.lay(x, 0, 0, 1, 0, 0, 1, 2, 1, 1, 3, 1, 1);
        x.begin(0);
        x.told(0, 0, 2);
        x.image(0);
        int[] due = new int[9];
        for (int round = 0; round < 3; round++) {
            is("12 three more", x.told(0, 4, 3), 3);
            int[] now = {x.pull(0), x.pull(3), x.pull(4), x.doing(0, 0, 0), x.doing(1, 0, 1), x.later(0, 2), x.later(4, 3), x.read(1),
                x.count(7)};
            for (int what = 0; what < 9; what++) {
                is("24 what " + what + " in round " + round, now[what], round == 0 ? now[what] : due[what]);
                due[what] = now[what];
            }
            is("24 restored", x.restore(0), 1);
            is("13 two", x.pull(1), 2);
            is("14 LAG 1: what was told ahead of the IMAGE", x.doing(0, 0, 1), 1);
        }
        is("16 GRIPS as told, not as kept", x.three(1, 0), NONE);
    }

    /** "An IMAGE (0, 1)": two, each for itself; one that is kept again is the later one. */
    private static void imagesAreTwo() {
        HeelsIn x = Due.of("side;puller 80 100 200 60 1;side;puller 80 90 190 60 2;");
        is("23 image 0", x.image(0), 1);
        is("24 restore 1", x.restore(1), STATE);
        x.begin(0);
        x.go(5);
        is("23 image 1", x.image(1), 1);
        x.go(2);
        is("24 restore 0", x.restore(0), 1);
        is("13 no PULL", x.pull(1), STATE);
        is("24 restore 1", x.restore(1), 1);
        is("13 five", x.pull(1), 5);
        x.go(4);
        is("23 image 0 again", x.image(0), 1);
        x.begin(1);
        is("24 restore 1", x.restore(1), 1);
        is("13 five", x.pull(1), 5);
        is("24 restore 0", x.restore(0), 1);
        is("13 nine", x.pull(1), 9);
        is("23 image 2", x.image(2), BAD);
        is("23 image -1", x.image(-1), BAD);
        is("24 restore 2", x.restore(2), BAD);
        is("24 restore -1", x.restore(-1), BAD);
        is("13 nine still", x.pull(1), 9);
        HeelsIn y = new HeelsIn();
        is("24 restore without a MATCH", y.restore(0), STATE);
        is("23 image without a MATCH", y.image(0), STATE);
        is("24 restore behind it", y.restore(0), STATE);
    }
}
