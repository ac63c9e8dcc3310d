/** Section 2, and Promises 10 to 15: each sentence with an edge, just inside and just outside. */
public final class EdgePullsTest {
    private static final int NONE = HeelsIn.NONE, BAD = HeelsIn.BAD, STATE = HeelsIn.STATE;
    private static final int HOLD = 0, HEAVE = 1, COUNTER = 2, REST = 3, SPENT = 4;

    private EdgePullsTest() {
    }

    public static void main(String[] args) {
        beginsAnew();
        endsChanged();
        gripsGoOn();
        belowAndAbove();
        breathByHowMany();
        threadOfSides();
        tenthsGone();
        firstThatHolds();
        callersOfATenth();
        lagTenthsAgo();
        lagBehindTheSixtieth();
        forcesOfDoings();
        counterByWhatIsTold();
        breathOfDoings();
        breathAsToldAtMost();
        gripOfForces();
        gripOneAtLeast();
        gripOfItsOwnCaller();
        threadByThreeAtMost();
        farOrMore();
        nothingGoesOn();
        gaveFirst();
        gaveByNumbers();
        keptTenths();
        keptOfThisPull();
        goUpToHundred();
        toldUpToTwenty();
        toldInPlaceOfRules();
        noneWentBy();
        Due.end("EdgePullsTest");
    }

    private static void is(String call, long got, long want) {
        Due.is(call, got, want);
    }

    /** PULLERS of one HOLD together, BURST as HOLD, all BREATH, no LAG. */
    private static String holding(int sum) {
        StringBuilder side = new StringBuilder("side;");
        for (int rest = sum; rest > 0; rest -= 200) {
            int hold = Math.min(200, rest);
            side.append("puller 80 ").append(hold).append(' ').append(hold).append(" 60 0;");
        }
        return side.toString();
    }

    private static void tell(HeelsIn x, int order0, int order1) {
        Due.lay(x, 7, 0, order0, order1);
        x.told(7, 0, 1);
    }

    /** "THREAD is at 0 .. each PULLER has all its BREATH": behind another PULL, too. */
    private static void beginsAnew() {
        HeelsIn x = Due.of("side;puller 80 150 250 7 1;puller 80 150 250 3 0;side;puller 80 20 80 60 0;puller 80 20 80 2 0;ground 100 1 9;");
        for (int changed = 0; changed < 2; changed++) {
            is("10 begins", x.begin(changed), 1);
            int[] due = {0, 0, NONE, 100 - 5 * changed, 100, NONE, NONE};
            for (int what = 0; what < 7; what++) {
                is("10 pull " + what + " at first, " + changed, x.pull(what), due[what]);
            }
            is("10 BREATH of 0, 0", x.doing(0, 0, 0), 7);
            is("10 BREATH of 0, 1", x.doing(0, 1, 0), 3);
            is("10 BREATH of 1, 0", x.doing(1, 0, 0), 60);
            is("10 BREATH of 1, 1", x.doing(1, 1, 0), 2);
            is("10 none kept", x.count(7), 0);
            is("10 later", x.later(0, 0), NONE);
            is("10 doing", x.doing(0, 0, 1), NONE);
            is("10 kind", x.kind(0, 0), STATE);
            Due.lay(x, 0, 0, 1, 0, 1, 0, 1, 0, 1, 0, 1, 0, 1, 0, 1, 0);
            x.told(0, 0, 5);
            is("13 GAVE", x.pull(5), 1);
        }
        x.begin(0);
        x.go(1);
        is("2 ahead of the first: not what another PULL told", x.doing(0, 0, 1), HOLD);
        is("2 so FORCE", x.doing(0, 0, 2), 150);
    }

    /** "END 0 is under SIDE 0, END 1 under SIDE 1, or changed". */
    private static void endsChanged() {
        HeelsIn x = Due.of(holding(200) + holding(200) + "ground 90 10 99;");
        x.begin(0);
        tell(x, HEAVE, HOLD);
        is("13 END 0", x.pull(3), 80);
        is("13 END 1", x.pull(4), 90);
        tell(x, HOLD, HOLD);
        is("15 FORCE of SIDE 0", x.later(0, 2), 160);
        is("15 FORCE of SIDE 1", x.later(0, 3), 180);
        x.begin(1);
        tell(x, HOLD, HOLD);
        is("15 FORCE of SIDE 0, changed", x.later(0, 2), 180);
        is("15 FORCE of SIDE 1, changed", x.later(0, 3), 160);
        tell(x, HEAVE, HOLD);
        is("13 END 0, changed", x.pull(3), 80);
        is("13 END 1, changed", x.pull(4), 80);
        tell(x, HOLD, HEAVE);
        is("13 END 0, by SIDE 1", x.pull(3), 70);
        is("13 END 1, not by SIDE 1", x.pull(4), 80);
        x.begin(0);
        tell(x, HOLD, HEAVE);
        is("13 END 1, not changed any more", x.pull(4), 70);
        is("10 changed 2", x.begin(2), BAD);
        is("10 changed -1", x.begin(-1), BAD);
    }

    /** "Each END has a GRIP (as told at first; it goes on over PULLS)". */
    private static void gripsGoOn() {
        HeelsIn x = Due.of(holding(100) + holding(100) + "ground 50 3 99;");
        for (int k = 1; k <= 3; k++) {
            x.begin(0);
            tell(x, HEAVE, HOLD);
            is("13 END 0 in PULL " + k, x.pull(3), 50 - 3 * k);
            is("13 END 1 in PULL " + k, x.pull(4), 50);
        }
        Due.match(x, "side;");
        is("13 behind a FAULT", x.pull(3), 41);
        Due.match(x, holding(100) + holding(100) + "ground 1 3 99;");
        x.begin(0);
        is("13 as told, 1", x.pull(3), 1);
        Due.match(x, holding(100) + holding(100) + "ground 100 3 99;");
        x.begin(1);
        is("13 as told, 100", x.pull(4), 100);
    }

    /** What SIDE 0's only rule (rest) makes its caller tell at first, with 10 BREATH against 20. */
    private static void ruled(String rule, boolean holds) {
        HeelsIn x = Due.of("side;puller 80 9 9 10 0;" + rule + " rest;side;puller 80 9 9 20 0;");
        x.begin(0);
        x.go(1);
        is("2 " + rule, x.later(0, 0), holds ? REST : HOLD);
        HeelsIn y = Due.of("side;puller 80 9 9 20 0;side;puller 80 9 9 10 0;" + rule + " rest;");
        y.begin(0);
        y.go(1);
        is("2 of SIDE 1: " + rule, y.later(0, 1), holds ? REST : HOLD);
        is("2 not of SIDE 0: " + rule, y.later(0, 0), HOLD);
    }

    /** "below: it is less than NUMBER; above: more": at it neither. */
    private static void belowAndAbove() {
        String[] whats = {"breath", "theirs", "thread", "tenth"};
        int[] felt = {10, 20, 0, 0};
        for (int k = 0; k < 4; k++) {
            for (int by = -1; by <= 1; by++) {
                ruled("when " + whats[k] + " below " + (felt[k] + by), by > 0);
                ruled("when " + whats[k] + " above " + (felt[k] + by), by < 0);
            }
            ruled("when " + whats[k] + " below -99", false);
            ruled("when " + whats[k] + " above -99", true);
            ruled("when " + whats[k] + " below 999", true);
            ruled("when " + whats[k] + " above 999", false);
        }
    }

    /** "what BREATH its PULLERS have, by how many they are (cut)". */
    private static void breathByHowMany() {
        int[][] breaths = {{10, 5}, {10, 6}, {20, 5, 3}, {20, 5, 4}, {20, 5, 5}, {1, 1}, {1, 2}, {60, 60, 60, 60, 60, 60, 60, 60},
            {60, 60, 60, 60, 60, 60, 60, 59}, {1, 1, 1, 1, 1, 1, 1, 1}, {1, 1, 1, 1, 1, 1, 1, 8}, {1, 1, 1, 1, 1, 1, 1, 9}, {60}};
        int[] cut = {7, 8, 9, 9, 10, 1, 1, 60, 59, 1, 1, 2, 60};
        for (int k = 0; k < breaths.length; k++) {
            StringBuilder pullers = new StringBuilder();
            for (int breath : breaths[k]) {
                pullers.append("puller 80 9 9 ").append(breath).append(" 0;");
            }
            for (int by = -1; by <= 1; by++) {
                String of = (cut[k] + by) + " rest;";
                String text = "side;" + pullers + "when breath below " + of + "side;puller 80 9 9 33 0;when theirs below " + of;
                HeelsIn x = Due.of(text);
                x.begin(0);
                x.go(1);
                is("2 breath: " + text, x.later(0, 0), by > 0 ? REST : HOLD);
                is("2 theirs: " + text, x.later(0, 1), by > 0 ? REST : HOLD);
                text = "side;puller 80 9 9 33 0;when theirs above " + of + "side;" + pullers + "when breath above " + of;
                HeelsIn y = Due.of(text);
                y.begin(0);
                y.go(1);
                is("2 theirs: " + text, y.later(0, 0), by < 0 ? REST : HOLD);
                is("2 breath: " + text, y.later(0, 1), by < 0 ? REST : HOLD);
            }
        }
    }

    /** "thread: THREAD, for SIDE 1 turned round": at 4, and at -4. */
    private static void threadOfSides() {
        for (int side = 0; side < 2; side++) {
            for (int sign = -1; sign <= 1; sign += 2) {
                for (int number = 3; number <= 5; number++) {
                    for (int above = 0; above < 2; above++) {
                        // What this SIDE feels behind four TENTHS is 4, or -4.
                        int felt = 4 * sign;
                        String rule = "when thread " + (above == 1 ? "above " : "below ") + sign * number + " rest;";
                        boolean strong = sign > 0;
                        String own = holding(strong ? 150 : 50) + rule;
                        String other = holding(strong ? 50 : 150);
                        HeelsIn x = Due.of(side == 0 ? own + other : other + own);
                        x.begin(0);
                        Due.lay(x, 0, 0, new int[8]);
                        x.told(0, 0, 4);
                        is("13 THREAD", x.pull(0), side == 0 ? felt : -felt);
                        x.go(1);
                        boolean holds = above == 1 ? felt > sign * number : felt < sign * number;
                        is("2 " + rule + " of SIDE " + side, x.later(0, side), holds ? REST : HOLD);
                        is("2 the other one", x.later(0, 1 - side), HOLD);
                    }
                }
            }
        }
    }

    /** "tenth: TENTHS that are gone": 0 in the first, and up to more than 999. */
    private static void tenthsGone() {
        HeelsIn x = Due.of("side;puller 80 9 9 60 0;when tenth above 999 counter;when tenth below 1 rest;"
            + "side;puller 80 9 9 60 0;when tenth below 2 heave;");
        x.begin(0);
        x.go(1);
        is("2 TENTH 0 of SIDE 0", x.later(0, 0), REST);
        is("2 TENTH 0 of SIDE 1", x.later(0, 1), HEAVE);
        x.go(1);
        is("2 TENTH 1 of SIDE 0", x.later(0, 0), HOLD);
        is("2 TENTH 1 of SIDE 1", x.later(0, 1), HEAVE);
        x.go(1);
        is("2 TENTH 2 of SIDE 1", x.later(0, 1), HOLD);
        x.go(97);
        for (int k = 0; k < 9; k++) {
            is("11 hundred more", x.go(100), 100);
        }
        is("13 1000 are gone", x.pull(1), 1000);
        is("2 TENTH 999", x.later(0, 0), HOLD);
        x.go(1);
        is("2 TENTH 1000", x.later(0, 0), COUNTER);
        x.begin(0);
        x.go(1);
        is("2 TENTH 0 of another PULL", x.later(0, 0), REST);
    }

    /** "the first rule that holds tells what to DO (none: hold)". */
    private static void firstThatHolds() {
        String[] orders = {"rest", "heave", "counter", "heave", "rest", "counter"};
        int[] numbers = {REST, HEAVE, COUNTER, HEAVE, REST, COUNTER};
        for (int first = 0; first <= 6; first++) {
            StringBuilder rules = new StringBuilder();
            for (int r = 0; r < 6; r++) {
                rules.append("when tenth ").append(r < first ? "below 0 " : "above -1 ").append(orders[r]).append(';');
            }
            HeelsIn x = Due.of("side;puller 80 9 9 60 0;" + rules + "side;puller 80 9 9 60 0;" + rules);
            x.begin(0);
            x.go(1);
            int due = first < 6 ? numbers[first] : HOLD;
            is("2 the first of SIDE 0 is " + first, x.later(0, 0), due);
            is("2 the first of SIDE 1 is " + first, x.later(0, 1), due);
        }
    }

    /** Both callers feel how it is ahead of the TENTH, not what the other one told in it. */
    private static void callersOfATenth() {
        HeelsIn x = Due.of("side;puller 80 200 9 60 0;when thread below 1 hold;when tenth above -1 rest;"
            + "side;puller 80 100 9 60 0;when thread below 0 rest;when theirs below 60 counter;");
        x.begin(0);
        x.go(1);
        is("2 SIDE 1 feels THREAD 0, and 60", x.later(0, 1), HOLD);
        is("15 THREAD behind it", x.later(0, 4), 1);
        x.go(1);
        is("2 SIDE 0 feels 1", x.later(0, 0), REST);
        is("2 SIDE 1 feels -1", x.later(0, 1), REST);
    }

    /** "A PULLER DOES what its caller told LAG TENTHS ago (ahead of the first: hold)": LAGS 0 to 5 on one SIDE. */
    private static void lagTenthsAgo() {
        HeelsIn x = Due.of(lags());
        int[] told = {1, 3, 2, 0, 1, 1, 3, 2, 2, 0};
        x.begin(0);
        for (int t = 0; t < told.length; t++) {
            tell(x, told[t], 3 - told[t]);
            for (int lag = 0; lag < 6; lag++) {
                is("2 LAG " + lag + " in " + t, x.doing(0, lag, 1), t < lag ? HOLD : told[t - lag]);
                is("2 LAG " + lag + " of SIDE 1 in " + t, x.doing(1, lag, 1), t < lag ? HOLD : 3 - told[t - lag]);
            }
        }
    }

    private static String lags() {
        StringBuilder side = new StringBuilder("side;");
        for (int lag = 0; lag < 6; lag++) {
            side.append("puller 80 9 9 60 ").append(lag).append(';');
        }
        return side + side.toString();
    }

    /** No more than 60 TENTHS are kept, and LAG goes on over it: 19 orders again and again, rest mostly. */
    private static void lagBehindTheSixtieth() {
        int[] round = {3, 3, 1, 3, 3, 2, 3, 0, 3, 3, 3, 1, 3, 3, 3, 2, 3, 0, 3};
        for (int from : new int[] {57, 117, 177}) {
            HeelsIn x = Due.of(lags());
            x.begin(0);
            layRound(x, round);
            for (int k = 0; k < from / 19; k++) {
                is("12 nineteen", x.told(0, 0, 19), 19);
            }
            for (int t = from / 19 * 19; t < from + 9; t++) {
                x.told(0, 2 * (t % 19), 1);
                for (int lag = 0; lag < 6; lag++) {
                    is("2 LAG " + lag + " in " + t, x.doing(0, lag, 1), round[(t - lag) % 19]);
                    is("2 LAG " + lag + " of SIDE 1 in " + t, x.doing(1, lag, 1), round[(t - lag + 18) % 19]);
                }
            }
        }
    }

    /** SIDE 1 is told what SIDE 0 was told the TENTH ahead. */
    private static void layRound(HeelsIn x, int[] round) {
        x.sheet(0, 0, 38);
        for (int k = 0; k < 19; k++) {
            x.set(0, 2 * k, round[k]);
            x.set(0, 2 * k + 1, round[(k + 18) % 19]);
        }
    }

    /** "hold: HOLD. heave: BURST. counter: (HOLD and BURST) by 2 .. else HOLD by 2. rest: HOLD by 2 .. HOLD by 4": cut. */
    private static void forcesOfDoings() {
        int[][] pullers = {{1, 1}, {1, 2}, {2, 1}, {3, 4}, {4, 3}, {5, 400}, {7, 8}, {51, 90}, {50, 91}, {199, 400}, {200, 399}, {200, 1},
            {198, 5}};
        for (int[] p : pullers) {
            String side = "side;puller 80 " + p[0] + " " + p[1] + " 60 0;";
            for (int own = 0; own < 4; own++) {
                for (int other = 0; other < 4; other++) {
                    HeelsIn x = Due.of(side + side + "ground 100 0 99;");
                    x.begin(0);
                    tell(x, own, other);
                    int[] due = {p[0], p[1], other == HEAVE ? (p[0] + p[1]) / 2 : p[0] / 2, p[0] / 2};
                    is("14 " + own + " against " + other + " of " + p[0] + ", " + p[1], x.doing(0, 0, 2), due[own]);
                    HeelsIn y = Due.of(side + side + "ground 100 0 99;");
                    y.begin(1);
                    tell(y, other, own);
                    is("14 of SIDE 1: " + own + " against " + other, y.doing(1, 0, 2), due[own]);
                }
            }
            HeelsIn x = Due.of("side;puller 80 " + p[0] + " " + p[1] + " 1 0;" + side + "ground 100 0 99;");
            for (int order = 1; order < 3; order++) {
                x.begin(0);
                tell(x, order, HEAVE);
                is("14 SPENT " + p[0], x.doing(0, 0, 2), p[0] / 4);
                is("14 SPENT", x.doing(0, 0, 1), SPENT);
            }
        }
    }

    /** "if the other SIDE's caller tells to heave in this TENTH": not what its PULLERS do, nor what it told before. */
    private static void counterByWhatIsTold() {
        HeelsIn x = Due.of("side;puller 80 50 90 60 0;puller 80 51 91 60 1;side;puller 80 50 90 60 2;");
        x.begin(0);
        tell(x, COUNTER, HEAVE);
        is("14 told to heave, and holds", x.doing(0, 0, 2), 70);
        is("14 it holds", x.doing(1, 0, 1), HOLD);
        is("14 LAG 1 holds", x.doing(0, 1, 2), 51);
        tell(x, HOLD, HEAVE);
        is("14 LAG 1 counters what is told now", x.doing(0, 1, 2), 71);
        tell(x, COUNTER, HOLD);
        is("14 told to hold, and heaves", x.doing(0, 0, 2), 25);
        is("14 it heaves", x.doing(1, 0, 1), HEAVE);
        tell(x, COUNTER, REST);
        is("14 LAG 1 counters nothing", x.doing(0, 1, 2), 25);
        is("14 nor does LAG 0", x.doing(0, 0, 2), 25);
        tell(x, HEAVE, COUNTER);
        tell(x, COUNTER, COUNTER);
        is("14 both counter", x.doing(0, 0, 2), 25);
        is("14 LAG 2 of SIDE 1 counters nothing", x.doing(1, 0, 1), REST);
        tell(x, HEAVE, HOLD);
        is("14 LAG 2 counters a heave that is told", x.doing(1, 0, 2), 70);
    }

    /** "heave 3 less, counter 2 less, hold 1 less, rest 2 more .. who has less than that takes is SPENT .. BREATH 1 more". */
    private static void breathOfDoings() {
        int[] takes = {1, 3, 2, -2};
        for (int told : new int[] {5, 60}) {
            for (int had = 0; had <= 5; had++) {
                for (int order = 0; order < 4; order++) {
                    HeelsIn x = Due.of("side;puller 80 40 80 " + told + " 0;side;puller 80 40 80 60 0;ground 100 0 99;");
                    x.begin(0);
                    for (int k = told; k > had; k--) {
                        tell(x, HOLD, REST);
                    }
                    is("14 BREATH " + had, x.doing(0, 0, 0), had);
                    is("13 nobody GAVE yet", x.pull(5), NONE);
                    tell(x, order, REST);
                    boolean spent = had < takes[order];
                    String name = "14 " + order + " with " + had + " of " + told;
                    is(name, x.doing(0, 0, 1), spent ? SPENT : order);
                    is(name + ": BREATH", x.doing(0, 0, 0), spent ? had + 1 : Math.min(told, had - takes[order]));
                    is(name + ": GAVE", x.pull(5), spent ? 0 : NONE);
                    is(name + ": in which", x.pull(6), spent ? told - had : NONE);
                }
            }
        }
    }

    /** "(as told at most)", "(as told at most, too)". */
    private static void breathAsToldAtMost() {
        for (int told : new int[] {1, 2, 3, 59, 60}) {
            HeelsIn x = Due.of("side;puller 80 40 80 " + told + " 0;side;puller 80 40 80 60 0;ground 100 0 99;");
            x.begin(0);
            tell(x, REST, REST);
            is("14 rest, full at " + told, x.doing(0, 0, 0), told);
            is("14 rest is never SPENT", x.doing(0, 0, 1), REST);
            tell(x, HOLD, REST);
            is("14 one less", x.doing(0, 0, 0), told - 1);
            tell(x, REST, REST);
            is("14 rest, one less at " + told, x.doing(0, 0, 0), told);
            if (told < 3) {
                tell(x, HEAVE, REST);
                is("14 SPENT, full at " + told, x.doing(0, 0, 1), SPENT);
                is("14 SPENT, full at " + told + ": BREATH", x.doing(0, 0, 0), told);
                tell(x, HOLD, REST);
                tell(x, HEAVE, REST);
                is("14 SPENT, one less at " + told, x.doing(0, 0, 0), told);
            }
        }
        HeelsIn y = Due.of("side;puller 80 40 80 1 0;side;puller 80 40 80 60 0;ground 100 0 99;");
        y.begin(0);
        tell(y, COUNTER, REST);
        is("14 counter with 1 of 1", y.doing(0, 0, 1), SPENT);
        is("14 BREATH 1", y.doing(0, 0, 0), 1);
    }

    /** "all of its PULLERS', added, times the GRIP of its END by 100" (cut). */
    private static void gripOfForces() {
        int[] sums = {1, 99, 100, 101, 199, 200, 250, 399, 1600};
        for (int sum : sums) {
            for (int grip : new int[] {1, 2, 49, 50, 99, 100}) {
                HeelsIn x = Due.of(holding(sum) + holding(1) + "ground " + grip + " 0 99;");
                x.begin(0);
                tell(x, HOLD, HOLD);
                is("15 " + sum + " by " + grip, x.later(0, 2), sum * grip / 100);
                is("15 1 by " + grip, x.later(0, 3), grip / 100);
            }
        }
        HeelsIn x = Due.of("side;" + "puller 80 200 400 60 0;".repeat(8) + "side;" + "puller 80 1 3 60 0;".repeat(8));
        x.begin(0);
        tell(x, HEAVE, REST);
        is("15 the greatest", x.later(0, 2), 3200);
        is("15 halves are cut one by one", x.later(0, 3), 0);
    }

    /** "the GRIP of its END is less by WEAR .. (1 at least)", "Behind it". */
    private static void gripOneAtLeast() {
        int[][] grips = {{100, 0, 100}, {100, 1, 99}, {100, 20, 80}, {22, 20, 2}, {21, 20, 1}, {20, 20, 1}, {19, 20, 1}, {2, 1, 1}, {1, 1, 1},
            {1, 0, 1}, {1, 20, 1}, {3, 1, 2}, {2, 0, 2}};
        for (int[] g : grips) {
            HeelsIn x = Due.of(holding(200) + holding(200) + "ground " + g[0] + " " + g[1] + " 99;");
            x.begin(0);
            tell(x, HEAVE, HEAVE);
            is("15 FORCE by the GRIP ahead of it " + g[0], x.later(0, 2), 2 * g[0]);
            is("15 FORCE of SIDE 1 by it " + g[0], x.later(0, 3), 2 * g[0]);
            is("13 " + g[0] + " less " + g[1], x.pull(3), g[2]);
            is("13 " + g[0] + " less " + g[1] + ", END 1", x.pull(4), g[2]);
            tell(x, HOLD, HOLD);
            is("15 then FORCE by " + g[2], x.later(0, 2), 2 * g[2]);
            is("13 hold does not wear", x.pull(3), g[2]);
            for (int k = 0; k < 5; k++) {
                tell(x, HEAVE, HOLD);
            }
            is("13 1 at least", x.pull(3), Math.max(1, g[0] - 6 * g[1]));
            is("13 END 1 stays", x.pull(4), g[2]);
        }
    }

    /** "if its caller told to heave in this TENTH": not what its PULLERS do, nor the other one's. */
    private static void gripOfItsOwnCaller() {
        for (int order0 = 0; order0 < 4; order0++) {
            for (int order1 = 0; order1 < 4; order1++) {
                HeelsIn x = Due.of("side;puller 80 40 40 60 0;side;puller 80 40 40 1 2;ground 50 5 99;");
                x.begin(0);
                tell(x, order0, order1);
                is("13 END 0: " + order0 + ", " + order1, x.pull(3), order0 == HEAVE ? 45 : 50);
                is("13 END 1: " + order0 + ", " + order1, x.pull(4), order1 == HEAVE ? 45 : 50);
                tell(x, HOLD, HEAVE);
                int worn = x.pull(4);
                tell(x, HOLD, HOLD);
                tell(x, HOLD, HOLD);
                is("13 no one wears by what was told before", x.pull(4), worn);
                is("14 it would have heaved", x.doing(1, 0, 1), SPENT);
            }
        }
    }

    /** "THREAD goes by (FORCE of SIDE 0 less that of SIDE 1) by 100, 3 at most either way" (cut towards 0). */
    private static void threadByThreeAtMost() {
        int[] more = {0, 1, 99, 100, 101, 198, 199, 200, 201, 298, 299, 300, 301, 399, 400, 499, 1000, 1590};
        for (int by : more) {
            int due = Math.min(3, by / 100);
            HeelsIn x = Due.of(holding(10 + by) + holding(10) + "ground 100 0 99;");
            x.begin(0);
            x.go(1);
            is("2 by " + by, x.pull(0), due);
            x.go(1);
            is("2 by " + by + " again", x.later(0, 4), 2 * due);
            HeelsIn y = Due.of(holding(10) + holding(10 + by) + "ground 100 0 99;");
            y.begin(1);
            y.go(1);
            is("2 by -" + by, y.pull(0), -due);
            y.go(1);
            is("2 by -" + by + " again", y.later(0, 4), -2 * due);
        }
    }

    /** "At FAR or more SIDE 0 has WON, at FAR less than 0, or less, SIDE 1; then nothing goes on." */
    private static void farOrMore() {
        int[][] ways = {{1, 1}, {1, 2}, {1, 3}, {2, 1}, {2, 2}, {2, 3}, {3, 1}, {3, 2}, {3, 3}, {4, 1}, {4, 3}, {5, 2}, {5, 3}, {20, 1}, {20, 3},
            {98, 3}, {99, 3}, {99, 2}, {60, 1}};
        for (int[] way : ways) {
            for (int side = 0; side < 2; side++) {
                String strong = holding(10 + 100 * way[1]);
                HeelsIn x = Due.of((side == 0 ? strong + holding(10) : holding(10) + strong) + "ground 100 0 " + way[0] + ";");
                x.begin(0);
                int tenths = (way[0] + way[1] - 1) / way[1];
                if (tenths > 1) {
                    is("11 one less", x.go(tenths - 1), tenths - 1);
                }
                String name = "13 FAR " + way[0] + " by " + way[1] + " of SIDE " + side;
                is(name + ": not yet", x.pull(2), NONE);
                is(name + ": one more", x.go(100), 1);
                is(name + ": THREAD", x.pull(0), (side == 0 ? 1 : -1) * tenths * way[1]);
                is(name + ": WON", x.pull(2), side);
                is(name + ": TENTHS", x.pull(1), tenths);
                x.begin(0);
                is(name + ": at once", x.go(100), tenths);
                x.begin(0);
                is(name + ": WON in no other PULL", x.pull(2), NONE);
            }
        }
    }

    /** "then nothing goes on", in go() and in told(). */
    private static void nothingGoesOn() {
        HeelsIn x = Due.of(holding(200) + holding(10) + "ground 90 2 3;");
        Due.lay(x, 0, 0, new int[40]);
        Due.lay(x, 1, 0, 1, 1, 1, 1);
        x.begin(0);
        is("12 till one has WON", x.told(0, 0, 20), 3);
        int[] due = {3, 3, 0, 90, 90, NONE, NONE};
        for (int k = 0; k < 3; k++) {
            is("11 nothing", x.go(100), 0);
            is("11 nothing by one", x.go(1), 0);
            is("12 nothing", x.told(1, 0, 2), 0);
            is("12 nothing by one", x.told(1, 2, 1), 0);
            for (int what = 0; what < 7; what++) {
                is("13 pull " + what, x.pull(what), due[what]);
            }
            is("14 BREATH", x.doing(0, 0, 0), 57);
            is("15 the latest", x.later(0, 0), HOLD);
            is("29 kept", x.count(7), 3);
        }
        is("10 anew", x.begin(0), 1);
        is("11 goes on", x.go(1), 1);
        is("12 goes on", x.told(1, 0, 1), 1);
    }

    /** "GAVE: the PULLER that was SPENT first .. and in which TENTH": in TENTH 0, too, and no later one. */
    private static void gaveFirst() {
        for (int side = 0; side < 2; side++) {
            for (int p = 0; p < 8; p++) {
                StringBuilder text = new StringBuilder();
                for (int k = 0; k < 16; k++) {
                    text.append(k % 8 == 0 ? "side;" : "").append("puller 80 9 9 ").append(k == 8 * side + p ? 3 : 4).append(" 0;");
                }
                HeelsIn x = Due.of(text.toString());
                x.begin(0);
                x.go(3);
                is("13 nobody yet", x.pull(5), NONE);
                is("13 in no TENTH", x.pull(6), NONE);
                x.go(1);
                is("13 GAVE", x.pull(5), 8 * side + p);
                is("13 in TENTH 3", x.pull(6), 3);
                x.go(9);
                is("13 GAVE still", x.pull(5), 8 * side + p);
                is("13 in TENTH 3 still", x.pull(6), 3);
                x.begin(0);
                is("13 nobody in another PULL", x.pull(5), NONE);
                is("13 in no TENTH of it", x.pull(6), NONE);
            }
        }
        HeelsIn y = Due.of("side;puller 80 9 9 2 0;side;puller 80 9 9 9 0;");
        y.begin(0);
        tell(y, HEAVE, HOLD);
        is("13 GAVE at once", y.pull(5), 0);
        is("13 in TENTH 0", y.pull(6), 0);
    }

    /** "(SIDE 0 ahead of 1, by numbers)": of several in one TENTH. */
    private static void gaveByNumbers() {
        int[][] spent = {{0, 8}, {7, 8}, {0, 1}, {8, 9}, {3, 5}, {7, 15}, {14, 15}, {5, 8}, {0, 15}, {1, 2}};
        for (int[] pair : spent) {
            StringBuilder text = new StringBuilder();
            for (int k = 0; k < 16; k++) {
                boolean gives = k == pair[0] || k == pair[1];
                text.append(k % 8 == 0 ? "side;" : "").append("puller 80 9 9 ").append(gives ? 2 : 9).append(" 0;");
            }
            HeelsIn x = Due.of(text.toString());
            x.begin(0);
            x.go(5);
            is("13 of " + pair[0] + " and " + pair[1], x.pull(5), pair[0]);
            is("13 in TENTH 2", x.pull(6), 2);
        }
        HeelsIn x = Due.of("side;puller 80 9 9 3 0;side;puller 80 9 9 4 0;puller 80 9 9 2 0;");
        x.begin(0);
        x.go(9);
        is("13 SIDE 1 where it is ahead in time", x.pull(5), 9);
    }

    /** "The last 60 TENTHS of the PULL are kept": 59, 60, 61, and again and again. */
    private static void keptTenths() {
        int[] round = {3, 3, 1, 3, 3, 2, 3, 0, 3, 3, 3, 1, 3, 3, 3, 2, 3, 0, 3};
        for (int gone : new int[] {1, 2, 59, 60, 61, 62, 119, 120, 121, 180}) {
            for (int part = 0; part < 2; part++) {
                HeelsIn x = Due.of("side;puller 80 9 9 60 0;side;puller 80 40 9 60 0;ground 100 0 99;");
                layRound(x, round);
                x.begin(0);
                for (int t = 0; t < gone; t += 19) {
                    x.told(0, 0, Math.min(19, gone - t));
                }
                is("13 gone", x.pull(1), gone);
                is("29 kept of " + gone, x.count(7), Math.min(60, gone));
                for (int ago = 0; ago < 62; ago++) {
                    int told = ago < gone && ago < 60 ? round[(gone - 1 - ago + 18 * part) % 19] : NONE;
                    is("15 told " + ago + " ago of " + gone, x.later(ago, part), told);
                    int hold = part == 0 ? 9 : 40;
                    int[] forces = {hold, 9, hold / 2, hold / 2};
                    boolean heave = told == COUNTER && round[(gone - 1 - ago + 18 * (1 - part)) % 19] == HEAVE;
                    is("15 FORCE " + ago + " ago of " + gone, x.later(ago, 2 + part),
                        told == NONE ? NONE : heave ? (hold + 9) / 2 : forces[told]);
                    is("15 THREAD " + ago + " ago", x.later(ago, 4), told == NONE ? NONE : 0);
                }
                is("15 high", x.later(Integer.MAX_VALUE, part), NONE);
                is("15 ago -1", x.later(-1, part), BAD);
            }
        }
    }

    /** "of the PULL": none of the one ahead; THREAD behind each TENTH. */
    private static void keptOfThisPull() {
        HeelsIn x = Due.of(holding(150) + holding(40) + "ground 100 0 70;");
        x.begin(0);
        x.go(58);
        for (int ago = 0; ago < 58; ago++) {
            is("15 THREAD behind it", x.later(ago, 4), 58 - ago);
        }
        is("15 not so many", x.later(58, 4), NONE);
        x.begin(0);
        is("15 none yet", x.later(0, 4), NONE);
        x.go(2);
        is("15 two", x.later(1, 4), 1);
        is("15 not three", x.later(2, 4), NONE);
        is("29 two", x.count(7), 2);
    }

    /** "n TENTHS (1 to 100)". */
    private static void goUpToHundred() {
        HeelsIn x = Due.of(holding(9) + holding(9));
        x.begin(0);
        is("11 n 1", x.go(1), 1);
        is("13 gone", x.pull(1), 1);
        is("11 n 99", x.go(99), 99);
        is("11 n 100", x.go(100), 100);
        is("13 gone", x.pull(1), 200);
        is("11 n 101", x.go(101), BAD);
        is("11 n 0", x.go(0), BAD);
        is("13 gone still", x.pull(1), 200);
    }

    /** "n (1 to 20)", "two ITEMS each": up to the end of a SHEET. */
    private static void toldUpToTwenty() {
        HeelsIn x = Due.of(holding(9) + holding(9));
        x.begin(0);
        x.sheet(0, 2, 40);
        x.set(0, 0, 1);
        x.set(0, 1, 2);
        x.set(0, 38, 3);
        x.set(0, 39, 1);
        is("12 twenty", x.told(0, 0, 20), 20);
        is("15 the first", x.later(19, 0), HEAVE);
        is("15 the first of SIDE 1", x.later(19, 1), COUNTER);
        is("15 the second", x.later(18, 0), HOLD);
        is("15 the last", x.later(0, 0), REST);
        is("15 the last of SIDE 1", x.later(0, 1), HEAVE);
        is("12 twenty-one", x.told(0, 0, 21), BAD);
        is("12 none", x.told(0, 0, 0), BAD);
        is("12 the last one", x.told(0, 38, 1), 1);
        is("12 across two", x.told(0, 37, 1), 1);
        is("15 across two", x.later(0, 1), REST);
        is("12 beyond", x.told(0, 39, 1), -1000012);
        is("12 beyond by one", x.told(0, 1, 20), -1000012);
        x.sheet(0, 0, 2);
        is("12 one of two", x.told(0, 0, 1), 1);
        is("12 two of two", x.told(0, 0, 2), -1000012);
        x.sheet(0, 0, 1);
        is("12 one of one", x.told(0, 0, 1), -1000012);
        x.sheet(0, 0, 0);
        is("12 of none", x.told(0, 0, 1), -1000012);
    }

    /** "What callers tell in place of their rules": for these TENTHS alone; what is told is felt by LAG later. */
    private static void toldInPlaceOfRules() {
        HeelsIn x = Due.of("side;puller 80 9 9 60 2;when tenth above -1 rest;side;puller 80 9 9 60 0;when tenth above -1 counter;");
        x.begin(0);
        x.go(1);
        is("15 by rules", x.later(0, 0), REST);
        tell(x, HEAVE, HOLD);
        is("15 as told", x.later(0, 0), HEAVE);
        is("15 as told to SIDE 1", x.later(0, 1), HOLD);
        x.go(1);
        is("15 by rules again", x.later(0, 1), COUNTER);
        is("14 what the rule told two TENTHS ago", x.doing(0, 0, 1), REST);
        x.go(1);
        is("14 what was told two TENTHS ago", x.doing(0, 0, 1), HEAVE);
        for (int order = 0; order < 4; order++) {
            tell(x, order, 3 - order);
            is("12 ITEM " + order, x.later(0, 0), order);
            is("12 ITEM " + (3 - order), x.later(0, 1), 3 - order);
        }
    }

    /** "NONE: none went by", and BREATH then. */
    private static void noneWentBy() {
        HeelsIn x = Due.of(States.FIRST);
        for (int what = 0; what < 3; what++) {
            is("14 no PULL", x.doing(1, 2, what), STATE);
        }
        x.begin(0);
        is("14 BREATH", x.doing(1, 2, 0), 8);
        is("14 DOING", x.doing(1, 2, 1), NONE);
        is("14 FORCE", x.doing(1, 2, 2), NONE);
        x.go(1);
        is("14 BREATH then", x.doing(1, 2, 0), 7);
        is("14 DOING then", x.doing(1, 2, 1), HOLD);
        is("14 FORCE then", x.doing(1, 2, 2), 70);
        x.begin(0);
        is("14 DOING of another PULL", x.doing(1, 2, 1), NONE);
        is("14 FORCE of another PULL", x.doing(1, 2, 2), NONE);
        is("14 PULLER 3", x.doing(1, 3, 0), BAD);
        is("14 PULLER 2 of SIDE 0", x.doing(0, 2, 0), BAD);
        is("14 what 3", x.doing(1, 2, 3), BAD);
        is("13 what 7", x.pull(7), BAD);
    }
}
