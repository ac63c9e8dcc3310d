/** Two sides of pullers on one rope. README.md says how to use it, ../shared/DOC.md what it promises. */
public final class HeelsIn {
    public static final int NONE = -1000000, BAD = -1000001, STATE = -1000002, FULL = -1000003;

    private static final int FOUND = -1000010, FAULTED = -1000100;
    private static final int FOUND_NULL = 1, FOUND_PLACE = 2, FOUND_KIND = 3, FOUND_SIZE = 4, FOUND_STORE = 5;

    private static final int SHEETS = 8, MOST_ITEMS = 40, LANES = 3, MOST_BYTES = 700;
    private static final int SIDES = 2, MOST_PULLERS = 8, MOST_RULES = 6, IMAGES = 2, KEPT = 60;

    private static final int WEIGHT = 0, HOLD = 1, BURST = 2, BREATH = 3, LAG = 4, TRAITS = 5;
    private static final int GRIP = 0, WEAR = 1, FAR = 2, GROUND = 3;
    private static final int DO_HOLD = 0, DO_HEAVE = 1, DO_COUNTER = 2, DO_REST = 3, DO_SPENT = 4;

    private final Sheet[] sheets = new Sheet[SHEETS];
    private int finding;
    private final Reader reader = new Reader();
    private int latestFault;
    private final Match match = new Match();
    private final Match draft = new Match();
    private final Tug tug = new Tug();
    private final Tug trial = new Tug();
    private final Match[] imageMatches = new Match[IMAGES];
    private final Tug[] imageTugs = new Tug[IMAGES];
    private final Places places = new Places();
    private final Choice choice = new Choice();
    private final Game game = new Game();
    private final Doing asked = new Doing();

    public HeelsIn() {
        for (int k = 0; k < SHEETS; k++) {
            sheets[k] = new Sheet();
        }
        for (int k = 0; k < IMAGES; k++) {
            imageMatches[k] = new Match();
            imageTugs[k] = new Tug();
        }
    }

    // ---- sheets

    public int sheet(int sheet, int lane, int n) {
        if (!within(sheet, SHEETS) || !within(lane, LANES) || n > MOST_ITEMS) {
            return BAD;
        }
        if (n < 0) {
            return found(FOUND_SIZE);
        }
        sheets[sheet].lay(lane, n);
        return well(n);
    }

    public int set(int sheet, int i, int v) {
        if (!within(sheet, SHEETS)) {
            return BAD;
        }
        Sheet s = sheets[sheet];
        if (s.missing) {
            return found(FOUND_NULL);
        }
        if (!s.holds(i, 1)) {
            return found(FOUND_PLACE);
        }
        s.items[i] = s.cut(v);
        return well(s.items[i]);
    }

    public int copy(int a, int i, int b, int j, int n) {
        if (!within(a, SHEETS) || !within(b, SHEETS)) {
            return BAD;
        }
        Sheet from = sheets[a];
        Sheet to = sheets[b];
        if (from.missing || to.missing) {
            return found(FOUND_NULL);
        }
        if (from.lane != to.lane) {
            return found(FOUND_STORE);
        }
        if (!from.holds(i, n) || !to.holds(j, n)) {
            return found(FOUND_PLACE);
        }
        System.arraycopy(from.items, i, to.items, j, n);
        return well(n);
    }

    public int drop(int sheet) {
        if (!within(sheet, SHEETS)) {
            return BAD;
        }
        Sheet s = sheets[sheet];
        if (s.missing) {
            return found(FOUND_NULL);
        }
        s.missing = true;
        return well(s.size);
    }

    // ---- matches, pulls

    public int feed(long w, int n) {
        if (n < 1 || n > 8) {
            return BAD;
        }
        return reader.append(w, n) ? reader.bytes : FULL;
    }

    public int match() {
        boolean good = reader.readText(draft);
        reader.bytes = 0;
        if (!good) {
            latestFault = reader.fault;
            return FAULTED - reader.place;
        }
        match.become(draft);
        tug.layGround(match);
        return match.pullers();
    }

    public int fault() {
        return latestFault;
    }

    public int puller(int side, int puller, int what) {
        if (!isPuller(side, puller) || !within(what, TRAITS)) {
            return BAD;
        }
        return match.sides[side].traits[puller][what];
    }

    public int begin(int changed) {
        if (!within(changed, 2)) {
            return BAD;
        }
        if (!match.stands) {
            return STATE;
        }
        tug.beginPull(match, changed);
        return 1;
    }

    public int go(int n) {
        if (n < 1 || n > 100) {
            return BAD;
        }
        if (!tug.begun) {
            return STATE;
        }
        return tug.goByRules(match, n);
    }

    public int told(int sheet, int i, int n) {
        if (!within(sheet, SHEETS) || n < 1 || n > 20) {
            return BAD;
        }
        if (!tug.begun) {
            return STATE;
        }
        Sheet s = sheets[sheet];
        if (s.missing) {
            return found(FOUND_NULL);
        }
        if (!s.holds(i, 2 * n)) {
            return found(FOUND_PLACE);
        }
        if (!areOrders(s, i, 2 * n)) {
            return BAD;
        }
        return well(tug.goAsTold(match, s, i, n));
    }

    public int pull(int what) {
        if (!within(what, 7)) {
            return BAD;
        }
        return tug.begun ? tug.state(what) : STATE;
    }

    public int doing(int side, int puller, int what) {
        if (!isPuller(side, puller) || !within(what, 3)) {
            return BAD;
        }
        if (!tug.begun) {
            return STATE;
        }
        if (what == 0) {
            return tug.breath[side][puller];
        }
        if (tug.gone == 0) {
            return NONE;
        }
        return what == 1 ? tug.did[side][puller] : tug.force[side][puller];
    }

    public int later(int ago, int what) {
        if (ago < 0 || !within(what, Tug.TOLD_OF_TENTH)) {
            return BAD;
        }
        if (!tug.begun) {
            return STATE;
        }
        return ago < tug.keptTenths() ? tug.keptAgo(what, ago) : NONE;
    }

    // ---- foretold

    public int three(int n, int what) {
        if (n < 1 || n > 200 || !within(what, 4)) {
            return BAD;
        }
        return match.stands ? trial.winnerOfThree(match, n, what) : STATE;
    }

    public int together(int side, int e, int what) {
        if (!within(side, SIDES) || !within(e, 51) || !within(what, 2) || !match.stands) {
            return BAD;
        }
        Side pullers = match.sides[side];
        int tenth = pullers.strongestTenth(e);
        return what == 0 ? pullers.forceTogether(tenth, e) : tenth;
    }

    public int stands(int side, int place) {
        if (!within(side, SIDES) || place < -1 || !match.stands) {
            return BAD;
        }
        Side pullers = match.sides[side];
        if (place >= pullers.count) {
            return NONE;
        }
        places.weigh(pullers);
        return place < 0 ? places.worthBehind[0] : places.pullerAt(pullers, place);
    }

    public int chosen(int w, int n, int what) {
        if (!within(w, 2001) || n < 1 || n > SIDES * MOST_PULLERS || !within(what, 2)) {
            return BAD;
        }
        if (!match.stands) {
            return STATE;
        }
        choice.choose(match, w, n);
        return what == 0 ? choice.bestSet : choice.bestHold;
    }

    public int game(int a, int b, int t, int what) {
        if (!within(a, 10) || !within(b, 10) || !within(t, 21) || !within(what, 2)) {
            return BAD;
        }
        game.fillTo(t);
        return what == 0 ? game.valueOf(a, b, t) : game.bestOf(a, b, t);
    }

    public int left(int sheet, int i, int n, int h, int b, int what) {
        boolean rowIsAsTold = within(sheet, SHEETS) && n >= 1 && n <= 20;
        boolean forcesAreAsTold = h >= 1 && h <= 999 && b > h && b <= 1999;
        if (!rowIsAsTold || !forcesAreAsTold || !within(what, 3)) {
            return BAD;
        }
        Sheet s = sheets[sheet];
        if (s.missing) {
            return found(FOUND_NULL);
        }
        if (!s.holds(i, n)) {
            return found(FOUND_PLACE);
        }
        return well(leftBehind(s, i, n, (h + b) / 2, what));
    }

    public int read(int side) {
        if (!within(side, SIDES)) {
            return BAD;
        }
        return tug.begun ? tug.roundOf(side) : STATE;
    }

    public int image(int k) {
        if (!within(k, IMAGES)) {
            return BAD;
        }
        if (!match.stands) {
            return STATE;
        }
        imageMatches[k].become(match);
        imageTugs[k].become(tug);
        return 1;
    }

    public int restore(int k) {
        if (!within(k, IMAGES)) {
            return BAD;
        }
        // An image is kept of a match that stands only, so one without a match was never kept.
        if (!imageMatches[k].stands) {
            return STATE;
        }
        match.become(imageMatches[k]);
        tug.become(imageTugs[k]);
        return 1;
    }

    // ---- asked

    public int kind(int side, int puller) {
        if (!isPuller(side, puller)) {
            return BAD;
        }
        return tug.hasDoings() ? kindOf(side, puller) : STATE;
    }

    public int as(int side, int puller, int kind) {
        if (!isPuller(side, puller) || !within(kind, Doing.KINDS)) {
            return BAD;
        }
        if (!tug.hasDoings()) {
            return STATE;
        }
        if (!Doing.isOne(kindOf(side, puller), kind)) {
            return found(FOUND_KIND);
        }
        return well(tug.force[side][puller]);
    }

    public int ask(int side, int puller, int what) {
        if (!isPuller(side, puller) || !within(what, 2)) {
            return BAD;
        }
        if (!tug.hasDoings()) {
            return STATE;
        }
        asked.kind = kindOf(side, puller);
        asked.puller = puller;
        asked.force = tug.force[side][puller];
        asked.breath = tug.breath[side][puller];
        asked.lag = match.sides[side].traits[puller][LAG];
        asked.traced = 0;
        return what == 0 ? asked.size() : asked.mark();
    }

    public int trace(int i) {
        return within(i, asked.traced) ? asked.numbers[i] : NONE;
    }

    public int count(int what) {
        switch (what) {
            case 0:
                return sheetsThatAre();
            case 1:
            case 2:
                return match.sides[what - 1].count;
            case 3:
            case 4:
                return match.sides[what - 3].ruleCount;
            case 5:
                return reader.bytes;
            case 6:
                return match.ground[FAR];
            case 7:
                return tug.keptTenths();
            default:
                return BAD;
        }
    }

    public int status() {
        return finding;
    }

    // ---- what several of these need

    private static boolean within(int value, int end) {
        return value >= 0 && value < end;
    }

    private int found(int number) {
        finding = number;
        return FOUND - number;
    }

    private int well(int answer) {
        finding = 0;
        return answer;
    }

    private boolean isPuller(int side, int puller) {
        return within(side, SIDES) && within(puller, match.sides[side].count);
    }

    private int kindOf(int side, int puller) {
        return tug.did[side][puller] + 1;
    }

    private int sheetsThatAre() {
        int there = 0;
        for (int k = 0; k < SHEETS; k++) {
            if (!sheets[k].missing) {
                there++;
            }
        }
        return there;
    }

    private static boolean areOrders(Sheet s, int first, int n) {
        for (int k = first; k < first + n; k++) {
            if (s.items[k] < DO_HOLD || s.items[k] > DO_REST) {
                return false;
            }
        }
        return true;
    }

    private static int leftBehind(Sheet s, int first, int n, int burstFrom, int what) {
        int began = 0;
        int least = NONE;
        int greatest = NONE;
        for (int start = 0; start <= Game.MOST_BREATH; start++) {
            int left = breathLeft(s, first, n, burstFrom, start);
            if (left >= 0) {
                began |= 1 << start;
                least = least == NONE ? left : Math.min(least, left);
                greatest = Math.max(greatest, left);
            }
        }
        return what == 0 ? began : what == 1 ? least : greatest;
    }

    /** Below 0: one that began so could not have done all of the bursts. */
    private static int breathLeft(Sheet s, int first, int n, int burstFrom, int start) {
        int breath = start;
        for (int k = first; k < first + n && breath >= 0; k++) {
            breath = s.items[k] >= burstFrom ? breath - 2 : Math.min(Game.MOST_BREATH, breath + 1);
        }
        return breath;
    }

    private static final class Sheet {
        private boolean missing = true;
        private int lane;
        private int size;
        private final int[] items = new int[MOST_ITEMS];

        private void lay(int newLane, int n) {
            missing = false;
            lane = newLane;
            size = n;
            for (int k = 0; k < MOST_ITEMS; k++) {
                items[k] = 0;
            }
        }

        /** Written so that no sum of two arguments can wrap around. */
        private boolean holds(int first, int n) {
            return first >= 0 && n >= 0 && first <= size && n <= size - first;
        }

        private int cut(int v) {
            return lane == 0 ? (byte) v : lane == 1 ? (short) v : v;
        }
    }

    private static final class Side {
        private int count;
        private final int[][] traits = new int[MOST_PULLERS][TRAITS];
        private int ruleCount;
        private final int[][] rules = new int[MOST_RULES][Tug.RULE_PARTS];

        private void become(Side other) {
            count = other.count;
            ruleCount = other.ruleCount;
            for (int p = 0; p < MOST_PULLERS; p++) {
                System.arraycopy(other.traits[p], 0, traits[p], 0, TRAITS);
            }
            for (int r = 0; r < MOST_RULES; r++) {
                System.arraycopy(other.rules[r], 0, rules[r], 0, Tug.RULE_PARTS);
            }
        }

        private int strongestTenth(int evenings) {
            int best = 0;
            for (int tenth = 1; tenth <= 5; tenth++) {
                if (forceTogether(tenth, evenings) > forceTogether(best, evenings)) {
                    best = tenth;
                }
            }
            return best;
        }

        private int forceTogether(int tenth, int evenings) {
            int force = 0;
            for (int p = 0; p < count; p++) {
                boolean bursts = practised(traits[p][LAG], evenings) == tenth;
                force += traits[p][bursts ? BURST : HOLD];
            }
            return force;
        }

        private static int practised(int lag, int evenings) {
            int shorter = lag;
            for (int e = 0; e < evenings; e++) {
                shorter = shorter * 9 / 10;
            }
            return shorter;
        }
    }

    private static final class Match {
        private boolean stands;
        private final Side[] sides = {new Side(), new Side()};
        private final int[] ground = new int[GROUND];

        private void become(Match other) {
            stands = other.stands;
            System.arraycopy(other.ground, 0, ground, 0, GROUND);
            sides[0].become(other.sides[0]);
            sides[1].become(other.sides[1]);
        }

        private int pullers() {
            return sides[0].count + sides[1].count;
        }
    }

    /** The tape, and how a text on it is read: each step answers whether there was no fault. */
    private static final class Reader {
        private static final int END = 0, NAME = 1, NUMBER = 2, SIGN = 3, NO_TOKEN = 4;
        private static final int MISPLACED = 1, OUT_OF_RANGE = 2, TOO_MANY = 3;

        private final byte[] tape = new byte[MOST_BYTES];
        private int bytes;
        private int token;
        private int start;
        private int end;
        private int number;
        private int fault;
        private int place;

        private boolean append(long w, int n) {
            if (n > MOST_BYTES - bytes) {
                return false;
            }
            for (int k = n - 1; k >= 0; k--) {
                tape[bytes] = (byte) (w >> (8 * k));
                bytes++;
            }
            return true;
        }

        private boolean readText(Match m) {
            end = 0;
            advance();
            m.stands = true;
            for (int side = 0; side < SIDES; side++) {
                if (!readHead() || !readPullers(m.sides[side]) || !readRules(m.sides[side])) {
                    return false;
                }
            }
            return readGround(m) && (token == END || refuse(MISPLACED));
        }

        private boolean readHead() {
            return readWord("side") && readSign() && (isName("puller") || refuse(MISPLACED));
        }

        private boolean readPullers(Side side) {
            side.count = 0;
            for (int p = 0; p <= MOST_PULLERS && isName("puller"); p++) {
                if (p == MOST_PULLERS) {
                    return refuse(TOO_MANY);
                }
                advance();
                int[] traits = side.traits[p];
                boolean good = readNumber(traits, WEIGHT, 40, 150) && readNumber(traits, HOLD, 1, 200)
                    && readNumber(traits, BURST, 1, 400) && readNumber(traits, BREATH, 1, 60)
                    && readNumber(traits, LAG, 0, 5) && readSign();
                if (!good) {
                    return false;
                }
                side.count = p + 1;
            }
            return true;
        }

        private boolean readRules(Side side) {
            side.ruleCount = 0;
            for (int r = 0; r <= MOST_RULES && isName("when"); r++) {
                if (r == MOST_RULES) {
                    return refuse(TOO_MANY);
                }
                advance();
                int[] rule = side.rules[r];
                boolean good = readOneOf(rule, Tug.RULE_WHAT, "breath", "theirs", "thread", "tenth")
                    && readOneOf(rule, Tug.RULE_ABOVE, "below", "above", "", "")
                    && readNumber(rule, Tug.RULE_NUMBER, -99, 999)
                    && readOneOf(rule, Tug.RULE_ORDER, "hold", "heave", "counter", "rest") && readSign();
                if (!good) {
                    return false;
                }
                side.ruleCount = r + 1;
            }
            return true;
        }

        private boolean readGround(Match m) {
            m.ground[GRIP] = 100;
            m.ground[WEAR] = 0;
            m.ground[FAR] = 20;
            if (!isName("ground")) {
                return true;
            }
            advance();
            return readNumber(m.ground, GRIP, 1, 100) && readNumber(m.ground, WEAR, 0, 20)
                && readNumber(m.ground, FAR, 1, 99) && readSign();
        }

        private boolean readWord(String word) {
            if (!isName(word)) {
                return refuse(MISPLACED);
            }
            advance();
            return true;
        }

        private boolean readSign() {
            if (token != SIGN) {
                return refuse(MISPLACED);
            }
            advance();
            return true;
        }

        private boolean readNumber(int[] into, int at, int least, int most) {
            if (token != NUMBER) {
                return refuse(MISPLACED);
            }
            if (number < least || number > most) {
                return refuse(OUT_OF_RANGE);
            }
            into[at] = number;
            advance();
            return true;
        }

        private boolean readOneOf(int[] into, int at, String a, String b, String c, String d) {
            int which = isName(a) ? 0 : isName(b) ? 1 : isName(c) ? 2 : isName(d) ? 3 : -1;
            if (which < 0) {
                return refuse(MISPLACED);
            }
            into[at] = which;
            advance();
            return true;
        }

        private boolean refuse(int number) {
            fault = number;
            place = start;
            return false;
        }

        private boolean isName(String word) {
            if (token != NAME || end - start != word.length()) {
                return false;
            }
            for (int k = 0; k < word.length(); k++) {
                if (tape[start + k] != word.charAt(k)) {
                    return false;
                }
            }
            return true;
        }

        private void advance() {
            start = end;
            while (start < bytes && (tape[start] == 32 || tape[start] == 10)) {
                start++;
            }
            end = start;
            if (start >= bytes) {
                token = END;
            } else if (isLetter(tape[start])) {
                takeName();
            } else if (isFigure(tape[start]) || tape[start] == '-') {
                takeNumber();
            } else {
                token = tape[start] == ';' ? SIGN : NO_TOKEN;
                end = start + 1;
            }
        }

        private void takeName() {
            token = NAME;
            while (end < bytes && isLetter(tape[end])) {
                end++;
            }
        }

        private void takeNumber() {
            boolean minus = tape[start] == '-';
            int first = minus ? start + 1 : start;
            number = 0;
            end = first;
            while (end < bytes && isFigure(tape[end])) {
                number = number * 10 + (tape[end] - '0');
                end++;
            }
            number = minus ? -number : number;
            token = end - first >= 1 && end - first <= 3 ? NUMBER : NO_TOKEN;
        }

        private static boolean isLetter(byte b) {
            return b >= 'a' && b <= 'z';
        }

        private static boolean isFigure(byte b) {
            return b >= '0' && b <= '9';
        }
    }

    /** A pull as it stands, and the grips, which outlast it. */
    private static final class Tug {
        private static final int RULE_WHAT = 0, RULE_ABOVE = 1, RULE_NUMBER = 2, RULE_ORDER = 3, RULE_PARTS = 4;
        private static final int ABOUT_BREATH = 0, ABOUT_THEIRS = 1, ABOUT_THREAD = 2;
        private static final int TENTH_FORCE = 2, TENTH_THREAD = 4, TOLD_OF_TENTH = 5;
        private static final int MOST_STEP = 3, MOST_ROUND = 30;
        // By doing: hold, heave, counter, rest, spent.
        private static final int[] BREATH_TAKEN = {1, 3, 2, -2, -1};

        private final int[] grips = new int[SIDES];
        private boolean begun;
        private int changed;
        private int thread;
        private int gone;
        private int won;
        private int gave;
        private int gaveIn;
        private final int[][] breath = new int[SIDES][MOST_PULLERS];
        private final int[][] did = new int[SIDES][MOST_PULLERS];
        private final int[][] force = new int[SIDES][MOST_PULLERS];
        private final int[][] kept = new int[TOLD_OF_TENTH][KEPT];

        private void become(Tug other) {
            begun = other.begun;
            changed = other.changed;
            thread = other.thread;
            gone = other.gone;
            won = other.won;
            gave = other.gave;
            gaveIn = other.gaveIn;
            System.arraycopy(other.grips, 0, grips, 0, SIDES);
            for (int side = 0; side < SIDES; side++) {
                System.arraycopy(other.breath[side], 0, breath[side], 0, MOST_PULLERS);
                System.arraycopy(other.did[side], 0, did[side], 0, MOST_PULLERS);
                System.arraycopy(other.force[side], 0, force[side], 0, MOST_PULLERS);
            }
            for (int what = 0; what < TOLD_OF_TENTH; what++) {
                System.arraycopy(other.kept[what], 0, kept[what], 0, KEPT);
            }
        }

        private void layGround(Match m) {
            begun = false;
            grips[0] = m.ground[GRIP];
            grips[1] = m.ground[GRIP];
        }

        private void beginPull(Match m, int endsChanged) {
            begun = true;
            changed = endsChanged;
            thread = 0;
            gone = 0;
            won = NONE;
            gave = NONE;
            gaveIn = NONE;
            for (int side = 0; side < SIDES; side++) {
                for (int p = 0; p < m.sides[side].count; p++) {
                    breath[side][p] = m.sides[side].traits[p][BREATH];
                }
            }
        }

        private int goByRules(Match m, int n) {
            int went = 0;
            for (; went < n && won == NONE; went++) {
                goTenth(m, orderByRules(m, 0), orderByRules(m, 1));
            }
            return went;
        }

        private int goAsTold(Match m, Sheet s, int first, int n) {
            int went = 0;
            for (; went < n && won == NONE; went++) {
                goTenth(m, s.items[first + 2 * went], s.items[first + 2 * went + 1]);
            }
            return went;
        }

        private int orderByRules(Match m, int side) {
            Side own = m.sides[side];
            for (int r = 0; r < own.ruleCount; r++) {
                int[] rule = own.rules[r];
                int felt = feltBy(m, side, rule[RULE_WHAT]);
                if (rule[RULE_ABOVE] == 1 ? felt > rule[RULE_NUMBER] : felt < rule[RULE_NUMBER]) {
                    return rule[RULE_ORDER];
                }
            }
            return DO_HOLD;
        }

        private int feltBy(Match m, int side, int what) {
            switch (what) {
                case ABOUT_BREATH:
                    return meanBreath(m, side);
                case ABOUT_THEIRS:
                    return meanBreath(m, 1 - side);
                case ABOUT_THREAD:
                    return side == 0 ? thread : -thread;
                default:
                    return gone;
            }
        }

        private int meanBreath(Match m, int side) {
            int pullers = m.sides[side].count;
            int sum = 0;
            for (int p = 0; p < pullers; p++) {
                sum += breath[side][p];
            }
            return pullers > 0 ? sum / pullers : 0;
        }

        private void goTenth(Match m, int order0, int order1) {
            int slot = gone % KEPT;
            // The orders come first: those without a lag do in this tenth what is told in it.
            kept[0][slot] = order0;
            kept[1][slot] = order1;
            int force0 = forceOfSide(m, 0, order1 == DO_HEAVE);
            int force1 = forceOfSide(m, 1, order0 == DO_HEAVE);
            wearEnd(m, 0, order0);
            wearEnd(m, 1, order1);
            thread += Math.max(-MOST_STEP, Math.min(MOST_STEP, (force0 - force1) / 100));
            kept[TENTH_FORCE][slot] = force0;
            kept[TENTH_FORCE + 1][slot] = force1;
            kept[TENTH_THREAD][slot] = thread;
            gone++;
            won = thread >= m.ground[FAR] ? 0 : thread <= -m.ground[FAR] ? 1 : NONE;
        }

        private int forceOfSide(Match m, int side, boolean othersHeave) {
            int sum = 0;
            for (int p = 0; p < m.sides[side].count; p++) {
                doTenth(m.sides[side].traits[p], side, p, othersHeave);
                sum += force[side][p];
            }
            return sum * grips[endUnder(side)] / 100;
        }

        private void doTenth(int[] traits, int side, int p, boolean othersHeave) {
            int order = orderAt(side, gone - traits[LAG]);
            int doing = breath[side][p] < BREATH_TAKEN[order] ? DO_SPENT : order;
            if (doing == DO_SPENT && gave == NONE) {
                gave = MOST_PULLERS * side + p;
                gaveIn = gone;
            }
            breath[side][p] = Math.min(traits[BREATH], breath[side][p] - BREATH_TAKEN[doing]);
            did[side][p] = doing;
            force[side][p] = forceOf(traits, doing, othersHeave);
        }

        private int orderAt(int side, int tenth) {
            return tenth < 0 ? DO_HOLD : kept[side][tenth % KEPT];
        }

        private static int forceOf(int[] traits, int doing, boolean othersHeave) {
            switch (doing) {
                case DO_HOLD:
                    return traits[HOLD];
                case DO_HEAVE:
                    return traits[BURST];
                case DO_COUNTER:
                    return othersHeave ? (traits[HOLD] + traits[BURST]) / 2 : traits[HOLD] / 2;
                case DO_REST:
                    return traits[HOLD] / 2;
                default:
                    return traits[HOLD] / 4;
            }
        }

        private int endUnder(int side) {
            return side ^ changed;
        }

        private void wearEnd(Match m, int side, int order) {
            if (order == DO_HEAVE) {
                int end = endUnder(side);
                grips[end] = Math.max(1, grips[end] - m.ground[WEAR]);
            }
        }

        private int state(int what) {
            switch (what) {
                case 0:
                    return thread;
                case 1:
                    return gone;
                case 2:
                    return won;
                case 3:
                case 4:
                    return grips[what - 3];
                case 5:
                    return gave;
                default:
                    return gaveIn;
            }
        }

        private boolean hasDoings() {
            return begun && gone > 0;
        }

        private int keptTenths() {
            return begun ? Math.min(gone, KEPT) : 0;
        }

        private int keptAgo(int what, int ago) {
            return kept[what][(gone - 1 - ago) % KEPT];
        }

        private int roundOf(int side) {
            int tenths = keptTenths();
            for (int n = 1; n <= MOST_ROUND && n < tenths; n++) {
                if (comesRound(side, n, tenths)) {
                    return n;
                }
            }
            return NONE;
        }

        private boolean comesRound(int side, int n, int tenths) {
            for (int ago = n; ago < tenths; ago++) {
                if (keptAgo(side, ago) != keptAgo(side, ago - n)) {
                    return false;
                }
            }
            return true;
        }

        private int winnerOfThree(Match m, int n, int what) {
            layGround(m);
            int balance = 0;
            for (int k = 0; k < 3; k++) {
                beginPull(m, k == 1 ? 1 : 0);
                goByRules(m, n);
                // A thread at far or beyond is above, or below, 0: the sign tells who has won, too.
                int leader = sideOf(thread);
                if (k == what) {
                    return leader;
                }
                balance += Integer.compare(thread, 0);
            }
            return sideOf(balance);
        }

        private static int sideOf(int lead) {
            return lead > 0 ? 0 : lead < 0 ? 1 : NONE;
        }
    }

    /** Who should stand where: by sets of pullers that are placed from the front, not by orders. */
    private static final class Places {
        private final int[] worthBehind = new int[1 << MOST_PULLERS];

        private void weigh(Side side) {
            int all = (1 << side.count) - 1;
            worthBehind[all] = 0;
            for (int placed = all - 1; placed >= 0; placed--) {
                worthBehind[placed] = worthWith(side, placed, bestNext(side, placed));
            }
        }

        /** The least of several, so that the order is the first one by places. */
        private int bestNext(Side side, int placed) {
            int best = -1;
            for (int p = 0; p < side.count; p++) {
                if ((placed >> p & 1) == 0 && (best < 0 || worthWith(side, placed, p) > worthWith(side, placed, best))) {
                    best = p;
                }
            }
            return best;
        }

        private int worthWith(Side side, int placed, int p) {
            if (p < 0) {
                return 0;
            }
            int place = Integer.bitCount(placed);
            int factor = 100 - 3 * Math.abs(place - 4) + (place == side.count - 1 ? 10 : 0);
            return side.traits[p][BURST] * factor + side.traits[p][WEIGHT] * place + worthBehind[placed | 1 << p];
        }

        private int pullerAt(Side side, int place) {
            int placed = 0;
            for (int ahead = 0; ahead < place; ahead++) {
                placed |= 1 << bestNext(side, placed);
            }
            return bestNext(side, placed);
        }
    }

    /** The strongest within a weight. */
    private static final class Choice {
        private final int[] weight = new int[SIDES * MOST_PULLERS];
        private final int[] hold = new int[SIDES * MOST_PULLERS];
        private final int[] holdBelow = new int[SIDES * MOST_PULLERS + 1];
        private int bestSet;
        private int bestHold;

        private void choose(Match m, int w, int n) {
            int row = 0;
            for (int side = 0; side < SIDES; side++) {
                for (int p = 0; p < m.sides[side].count; p++) {
                    weight[row] = m.sides[side].traits[p][WEIGHT];
                    hold[row] = m.sides[side].traits[p][HOLD];
                    holdBelow[row + 1] = holdBelow[row] + hold[row];
                    row++;
                }
            }
            bestSet = 0;
            bestHold = 0;
            tryBelow(this, row, w, n, 0, 0);
        }

        /** Sets come in the order of their bits, so only one that holds more takes a place; at most 16 deep. */
        private static void tryBelow(Choice c, int row, int weightLeft, int roomLeft, int set, int held) {
            if (held > c.bestHold) {
                c.bestHold = held;
                c.bestSet = set;
            }
            if (row <= 0 || roomLeft == 0 || held + c.holdBelow[row] <= c.bestHold) {
                return;
            }
            int last = row - 1;
            tryBelow(c, last, weightLeft, roomLeft, set, held);
            if (c.weight[last] <= weightLeft) {
                tryBelow(c, last, weightLeft - c.weight[last], roomLeft - 1, set | 1 << last, held + c.hold[last]);
            }
        }
    }

    /** The values of a game by tenths that are to come: told by the document once for all, so never filled twice. */
    private static final class Game {
        private static final int MOST_BREATH = 9, BREATHS = 10, MOST_TENTHS = 20, MOVES = 3;
        // By move: hold, heave, counter.
        private static final int[] BREATH_NEEDED = {0, 2, 1};
        private static final int[] BREATH_GAINED = {1, -2, -1};
        // By move of side 0 times 3, and that of side 1.
        private static final int[] GAINS = {0, -2, 1, 2, 0, -3, -1, 3, 0};

        private final int[][] values = new int[MOST_TENTHS + 1][BREATHS * BREATHS];
        private int filled;

        /** The values of t tenths stand on those of one fewer; those of none are 0. */
        private void fillTo(int t) {
            for (; filled < t && filled < MOST_TENTHS; filled++) {
                for (int state = 0; state < BREATHS * BREATHS; state++) {
                    int a = state / BREATHS;
                    int b = state % BREATHS;
                    values[filled + 1][state] = worstOf(bestMove(a, b, filled + 1), a, b, filled + 1);
                }
            }
        }

        private int valueOf(int a, int b, int t) {
            return values[t][a * BREATHS + b];
        }

        private int bestOf(int a, int b, int t) {
            return t < 1 ? NONE : bestMove(a, b, t);
        }

        private static boolean can(int move, int breath) {
            return breath >= BREATH_NEEDED[move];
        }

        private static int breathAfter(int move, int breath) {
            return Math.min(MOST_BREATH, breath + BREATH_GAINED[move]);
        }

        private int bestMove(int a, int b, int t) {
            int best = 0;
            for (int move = 1; move < MOVES; move++) {
                if (can(move, a) && worstOf(move, a, b, t) > worstOf(best, a, b, t)) {
                    best = move;
                }
            }
            return best;
        }

        private int worstOf(int move, int a, int b, int t) {
            int row = breathAfter(move, a) * BREATHS;
            // One can always hold.
            int worst = gainBy(move, 0, row, b, t);
            for (int reply = 1; reply < MOVES; reply++) {
                if (can(reply, b)) {
                    worst = Math.min(worst, gainBy(move, reply, row, b, t));
                }
            }
            return worst;
        }

        private int gainBy(int move, int reply, int row, int b, int t) {
            return GAINS[move * MOVES + reply] + values[t - 1][row + breathAfter(reply, b)];
        }
    }

    /** What a puller did in the latest tenth, as one that is asked; the bodies bear the document's numbers. */
    private static final class Doing {
        private static final int DOING = 0, HELD = 1, HEAVED = 2, COUNTERED = 3, RESTED = 4, SPENT = 5, KINDS = 6;
        private static final int MOST_TRACED = 16;

        private int kind;
        private int puller;
        private int force;
        private int breath;
        private int lag;
        private final int[] numbers = new int[MOST_TRACED];
        private int traced;

        private static boolean isOne(int kind, int wanted) {
            return wanted == DOING || wanted == kind
                || wanted == HEAVED && kind == COUNTERED || wanted == HELD && kind == RESTED;
        }

        private void begins(int body) {
            if (traced < MOST_TRACED) {
                numbers[traced] = body;
                traced++;
            }
        }

        private int size() {
            switch (kind) {
                case HELD:
                    return size11();
                case RESTED:
                    return size12();
                case HEAVED:
                case COUNTERED:
                    return size13();
                case SPENT:
                    return size14();
                default:
                    return size10();
            }
        }

        private int mark() {
            switch (kind) {
                case HEAVED:
                    return mark21();
                case COUNTERED:
                    return mark22();
                case SPENT:
                    return mark23();
                case RESTED:
                    return mark24();
                default:
                    return mark20();
            }
        }

        private int size10() {
            begins(10);
            return force;
        }

        private int size11() {
            begins(11);
            return size10() + breath;
        }

        private int size12() {
            begins(12);
            return 2 * size11();
        }

        private int size13() {
            begins(13);
            int size = size10();
            // Only heaved ones, countered among them, come here: mark() asked anew would find no other body.
            return size - (kind == COUNTERED ? mark22() : mark21());
        }

        private int size14() {
            begins(14);
            return -size10();
        }

        private int mark20() {
            begins(20);
            return puller;
        }

        private int mark21() {
            begins(21);
            return mark20() + 10 * lag;
        }

        private int mark22() {
            begins(22);
            return mark21() + 100;
        }

        private int mark23() {
            begins(23);
            // Only spent ones come here, and only rested ones to 24: size() asked anew would find no other body.
            return mark20() + size14();
        }

        private int mark24() {
            begins(24);
            return mark20() - size12();
        }
    }
}
