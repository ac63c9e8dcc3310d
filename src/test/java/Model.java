import java.util.ArrayList;
import java.util.Arrays;
import java.util.HashMap;
import java.util.List;
import java.util.Map;

/** The document once more, told in the widest way: every order, every set, every row tried; nothing shared with the class. */
final class Model {
    static final int NONE = -1000000, BAD = -1000001, STATE = -1000002, FULL = -1000003;

    record Puller(int[] traits) {
        int weight() { return traits[0]; }
        int hold() { return traits[1]; }
        int burst() { return traits[2]; }
        int breath() { return traits[3]; }
        int lag() { return traits[4]; }
    }

    record Rule(String what, boolean above, int number, int order) { }

    record Team(List<Puller> pullers, List<Rule> rules) { }

    record Bout(List<Team> teams, int grip, int wear, int far) { }

    record Tenth(int[] told, int[] forces, int thread, int[][] did, int[][] force) { }

    static final class Rope {
        final Bout bout;
        int[] grips;
        int changed;
        int thread;
        int won = NONE;
        int gave = NONE;
        int gaveIn = NONE;
        int[][] breath;
        final List<Tenth> tenths = new ArrayList<>();

        Rope(Bout bout, int[] grips, int changed) {
            this.bout = bout;
            this.grips = grips;
            this.changed = changed;
            breath = new int[2][];
            for (int s = 0; s < 2; s++) {
                breath[s] = bout.teams().get(s).pullers().stream().mapToInt(Puller::breath).toArray();
            }
        }

        Rope twin() {
            Rope r = new Rope(bout, grips.clone(), changed);
            r.thread = thread;
            r.won = won;
            r.gave = gave;
            r.gaveIn = gaveIn;
            r.breath = new int[][] {breath[0].clone(), breath[1].clone()};
            r.tenths.addAll(tenths);
            return r;
        }

        int order(int side) {
            for (Rule rule : bout.teams().get(side).rules()) {
                int felt = switch (rule.what()) {
                    case "breath" -> Arrays.stream(breath[side]).sum() / breath[side].length;
                    case "theirs" -> Arrays.stream(breath[1 - side]).sum() / breath[1 - side].length;
                    case "thread" -> side == 0 ? thread : -thread;
                    default -> tenths.size();
                };
                if (rule.above() && felt > rule.number() || !rule.above() && felt < rule.number()) {
                    return rule.order();
                }
            }
            return 0;
        }

        void tenth(int[] told) {
            int[] forces = new int[2];
            int[][] did = new int[2][8];
            int[][] force = new int[2][8];
            for (int s = 0; s < 2; s++) {
                int sum = 0;
                for (int p = 0; p < breath[s].length; p++) {
                    Puller puller = bout.teams().get(s).pullers().get(p);
                    int ago = tenths.size() - puller.lag();
                    int order = puller.lag() == 0 ? told[s] : ago < 0 ? 0 : tenths.get(ago).told()[s];
                    int takes = order == 0 ? 1 : order == 1 ? 3 : order == 2 ? 2 : 0;
                    if (breath[s][p] < takes) {
                        if (gave == NONE) {
                            gave = 8 * s + p;
                            gaveIn = tenths.size();
                        }
                        did[s][p] = 4;
                        force[s][p] = puller.hold() / 4;
                        breath[s][p] += 1;
                    } else {
                        did[s][p] = order;
                        force[s][p] = order == 0 ? puller.hold() : order == 1 ? puller.burst() : order == 3 ? puller.hold() / 2
                            : told[1 - s] == 1 ? (puller.hold() + puller.burst()) / 2 : puller.hold() / 2;
                        breath[s][p] += order == 3 ? 2 : -takes;
                    }
                    breath[s][p] = Math.min(breath[s][p], puller.breath());
                    sum += force[s][p];
                }
                forces[s] = sum * grips[s ^ changed] / 100;
            }
            for (int s = 0; s < 2; s++) {
                if (told[s] == 1) {
                    grips[s ^ changed] = Math.max(1, grips[s ^ changed] - bout.wear());
                }
            }
            int by = (forces[0] - forces[1]) / 100;
            thread += by > 3 ? 3 : by < -3 ? -3 : by;
            tenths.add(new Tenth(told, forces, thread, did, force));
            if (thread >= bout.far()) {
                won = 0;
            } else if (thread <= -bout.far()) {
                won = 1;
            }
        }

        int go(int n) {
            int went = 0;
            while (went < n && won == NONE) {
                tenth(new int[] {order(0), order(1)});
                went++;
            }
            return went;
        }

        List<Tenth> kept() {
            return tenths.subList(Math.max(0, tenths.size() - 60), tenths.size());
        }
    }

    interface Deed {
        Ask ask();

        default int size() {
            ask().trace.add(10);
            return ask().force;
        }

        default int mark() {
            ask().trace.add(20);
            return ask().puller;
        }
    }

    static class Held implements Deed {
        final Ask ask;

        Held(Ask ask) { this.ask = ask; }

        public Ask ask() { return ask; }

        public int size() {
            ask.trace.add(11);
            return Deed.super.size() + ask.breath;
        }
    }

    static final class Rested extends Held {
        Rested(Ask ask) { super(ask); }

        public int size() {
            ask.trace.add(12);
            return 2 * super.size();
        }

        public int mark() {
            ask.trace.add(24);
            return super.mark() - size();
        }
    }

    static class Heaved implements Deed {
        final Ask ask;

        Heaved(Ask ask) { this.ask = ask; }

        public Ask ask() { return ask; }

        public int size() {
            ask.trace.add(13);
            return Deed.super.size() - mark();
        }

        public int mark() {
            ask.trace.add(21);
            return Deed.super.mark() + 10 * ask.lag;
        }
    }

    static final class Countered extends Heaved {
        Countered(Ask ask) { super(ask); }

        public int mark() {
            ask.trace.add(22);
            return super.mark() + 100;
        }
    }

    static final class Spent implements Deed {
        final Ask ask;

        Spent(Ask ask) { this.ask = ask; }

        public Ask ask() { return ask; }

        public int size() {
            ask.trace.add(14);
            return 0 - Deed.super.size();
        }

        public int mark() {
            ask.trace.add(23);
            return Deed.super.mark() + size();
        }
    }

    static final class Ask {
        final List<Integer> trace = new ArrayList<>();
        int force;
        int puller;
        int breath;
        int lag;
    }

    private final int[][] sheets = new int[8][];
    private final int[] lanes = new int[8];
    private final StringBuilder tape = new StringBuilder();
    private int finding;
    private int latestFault;
    private Bout bout;
    private int[] grips;
    private Rope rope;
    private final Object[][] images = new Object[2][];
    private List<Integer> trace = new ArrayList<>();
    private final Map<Integer, Integer> games = new HashMap<>();

    private int found(int number) {
        finding = number;
        return -1000010 - number;
    }

    private int well(int answer) {
        finding = 0;
        return answer;
    }

    private static boolean out(int value, int least, int most) {
        return value < least || value > most;
    }

    private boolean beyond(int sheet, long i, long n) {
        return i < 0 || n < 0 || i + n > sheets[sheet].length;
    }

    int sheet(int sheet, int lane, int n) {
        if (out(sheet, 0, 7) || out(lane, 0, 2) || n > 40) {
            return BAD;
        }
        if (n < 0) {
            return found(4);
        }
        sheets[sheet] = new int[n];
        lanes[sheet] = lane;
        return well(n);
    }

    int set(int sheet, int i, int v) {
        if (out(sheet, 0, 7)) {
            return BAD;
        }
        if (sheets[sheet] == null) {
            return found(1);
        }
        if (beyond(sheet, i, 1)) {
            return found(2);
        }
        int away = 32 - (8 << lanes[sheet]);
        sheets[sheet][i] = v << away >> away;
        return well(sheets[sheet][i]);
    }

    int copy(int a, int i, int b, int j, int n) {
        if (out(a, 0, 7) || out(b, 0, 7)) {
            return BAD;
        }
        if (sheets[a] == null || sheets[b] == null) {
            return found(1);
        }
        if (lanes[a] != lanes[b]) {
            return found(5);
        }
        if (beyond(a, i, n) || beyond(b, j, n)) {
            return found(2);
        }
        int[] ahead = sheets[a].clone();
        for (int k = 0; k < n; k++) {
            sheets[b][j + k] = ahead[i + k];
        }
        return well(n);
    }

    int drop(int sheet) {
        if (out(sheet, 0, 7)) {
            return BAD;
        }
        if (sheets[sheet] == null) {
            return found(1);
        }
        int had = sheets[sheet].length;
        sheets[sheet] = null;
        return well(had);
    }

    int feed(long w, int n) {
        if (out(n, 1, 8)) {
            return BAD;
        }
        if (tape.length() + n > 700) {
            return FULL;
        }
        for (int k = 0; k < n; k++) {
            tape.append((char) (w >> 8 * (n - 1 - k) & 255));
        }
        return tape.length();
    }

    int match() {
        Bout read = null;
        String text = tape.toString();
        tape.setLength(0);
        ModelText reading = new ModelText(text);
        try {
            read = reading.bout();
        } catch (ModelText.Fault f) {
            latestFault = f.number;
            return -1000100 - f.place;
        }
        bout = read;
        grips = new int[] {read.grip(), read.grip()};
        rope = null;
        return read.teams().get(0).pullers().size() + read.teams().get(1).pullers().size();
    }

    int fault() {
        return latestFault;
    }

    private boolean noPuller(int side, int puller) {
        return bout == null || out(side, 0, 1) || out(puller, 0, bout.teams().get(side).pullers().size() - 1);
    }

    int puller(int side, int puller, int what) {
        if (noPuller(side, puller) || out(what, 0, 4)) {
            return BAD;
        }
        return bout.teams().get(side).pullers().get(puller).traits()[what];
    }

    int begin(int changed) {
        if (out(changed, 0, 1)) {
            return BAD;
        }
        if (bout == null) {
            return STATE;
        }
        rope = new Rope(bout, grips, changed);
        return 1;
    }

    int go(int n) {
        if (out(n, 1, 100)) {
            return BAD;
        }
        return rope == null ? STATE : rope.go(n);
    }

    int told(int sheet, int i, int n) {
        if (out(sheet, 0, 7) || out(n, 1, 20)) {
            return BAD;
        }
        if (rope == null) {
            return STATE;
        }
        if (sheets[sheet] == null) {
            return found(1);
        }
        if (beyond(sheet, i, 2 * n)) {
            return found(2);
        }
        for (int k = i; k < i + 2 * n; k++) {
            if (out(sheets[sheet][k], 0, 3)) {
                return BAD;
            }
        }
        int went = 0;
        while (went < n && rope.won == NONE) {
            rope.tenth(new int[] {sheets[sheet][i + 2 * went], sheets[sheet][i + 2 * went + 1]});
            went++;
        }
        return well(went);
    }

    int pull(int what) {
        if (out(what, 0, 6)) {
            return BAD;
        }
        if (rope == null) {
            return STATE;
        }
        return new int[] {rope.thread, rope.tenths.size(), rope.won, grips[0], grips[1], rope.gave, rope.gaveIn}[what];
    }

    private Tenth latest() {
        return rope == null || rope.tenths.isEmpty() ? null : rope.tenths.get(rope.tenths.size() - 1);
    }

    int doing(int side, int puller, int what) {
        if (noPuller(side, puller) || out(what, 0, 2)) {
            return BAD;
        }
        if (rope == null) {
            return STATE;
        }
        if (what == 0) {
            return rope.breath[side][puller];
        }
        return latest() == null ? NONE : what == 1 ? latest().did()[side][puller] : latest().force()[side][puller];
    }

    int later(int ago, int what) {
        if (ago < 0 || out(what, 0, 4)) {
            return BAD;
        }
        if (rope == null) {
            return STATE;
        }
        List<Tenth> kept = rope.kept();
        if (ago >= kept.size()) {
            return NONE;
        }
        Tenth t = kept.get(kept.size() - 1 - ago);
        return what < 2 ? t.told()[what] : what < 4 ? t.forces()[what - 2] : t.thread();
    }

    int three(int n, int what) {
        if (out(n, 1, 200) || out(what, 0, 3)) {
            return BAD;
        }
        if (bout == null) {
            return STATE;
        }
        int[] ground = {bout.grip(), bout.grip()};
        int[] wins = new int[2];
        int[] who = new int[4];
        for (int k = 0; k < 3; k++) {
            Rope trial = new Rope(bout, ground, k % 2);
            trial.go(n);
            who[k] = trial.won != NONE ? trial.won : trial.thread == 0 ? NONE : trial.thread > 0 ? 0 : 1;
            if (who[k] != NONE) {
                wins[who[k]]++;
            }
        }
        who[3] = wins[0] == wins[1] ? NONE : wins[0] > wins[1] ? 0 : 1;
        return who[what];
    }

    int together(int side, int e, int what) {
        if (out(side, 0, 1) || out(e, 0, 50) || out(what, 0, 1) || bout == null) {
            return BAD;
        }
        int[] forces = new int[6];
        for (Puller p : bout.teams().get(side).pullers()) {
            int lag = p.lag();
            for (int k = 0; k < e; k++) {
                lag = lag * 9 / 10;
            }
            for (int t = 0; t < 6; t++) {
                forces[t] += t == lag ? p.burst() : p.hold();
            }
        }
        int best = Arrays.stream(forces).max().getAsInt();
        for (int t = 0; what == 1; t++) {
            if (forces[t] == best) {
                return t;
            }
        }
        return best;
    }

    private int bestWorth;
    private List<Integer> bestOrder;

    private void orders(List<Puller> pullers, List<Integer> order) {
        int n = pullers.size();
        if (order.size() == n) {
            int worth = 0;
            for (int p = 0; p < n; p++) {
                int far = p < 4 ? 4 - p : p - 4;
                int factor = 100 - 3 * far + (p + 1 == n ? 10 : 0);
                worth += pullers.get(order.get(p)).burst() * factor + pullers.get(order.get(p)).weight() * p;
            }
            if (bestOrder == null || worth > bestWorth) {
                bestWorth = worth;
                bestOrder = new ArrayList<>(order);
            }
            return;
        }
        for (int k = 0; k < n; k++) {
            if (!order.contains(k)) {
                order.add(k);
                orders(pullers, order);
                order.remove(order.size() - 1);
            }
        }
    }

    int stands(int side, int place) {
        if (out(side, 0, 1) || place < -1 || bout == null) {
            return BAD;
        }
        bestOrder = null;
        orders(bout.teams().get(side).pullers(), new ArrayList<>());
        return place < 0 ? bestWorth : place < bestOrder.size() ? bestOrder.get(place) : NONE;
    }

    int chosen(int w, int n, int what) {
        if (out(w, 0, 2000) || out(n, 1, 16) || out(what, 0, 1)) {
            return BAD;
        }
        if (bout == null) {
            return STATE;
        }
        List<Puller> row = new ArrayList<>(bout.teams().get(0).pullers());
        row.addAll(bout.teams().get(1).pullers());
        int best = 0;
        int most = 0;
        for (int set = 0; set < 1 << row.size(); set++) {
            int weight = 0;
            int hold = 0;
            int number = 0;
            for (int k = 0; k < row.size(); k++) {
                if ((set >> k & 1) == 1) {
                    weight += row.get(k).weight();
                    hold += row.get(k).hold();
                    number++;
                }
            }
            if (number <= n && weight <= w && hold > most) {
                most = hold;
                best = set;
            }
        }
        return what == 0 ? best : most;
    }

    private int[] movesOf(int breath) {
        return breath >= 2 ? new int[] {0, 1, 2} : breath >= 1 ? new int[] {0, 2} : new int[] {0};
    }

    private static int gain(int x, int y) {
        if (x == 1 && y == 0) {
            return 2;
        }
        if (x == 1 && y == 2) {
            return -3;
        }
        if (x == 2 && y == 0) {
            return -1;
        }
        return x == y ? 0 : -gain(y, x);
    }

    private static int after(int move, int breath) {
        return move == 0 ? Math.min(9, breath + 1) : move == 1 ? breath - 2 : breath - 1;
    }

    private int[] play(int a, int b, int t) {
        if (t == 0) {
            return new int[] {0, NONE};
        }
        Integer known = games.get((t * 10 + a) * 10 + b);
        if (known != null) {
            return new int[] {known, NONE};
        }
        int[] best = {Integer.MIN_VALUE, NONE};
        for (int x : movesOf(a)) {
            int worst = Integer.MAX_VALUE;
            for (int y : movesOf(b)) {
                worst = Math.min(worst, gain(x, y) + play(after(x, a), after(y, b), t - 1)[0]);
            }
            if (worst > best[0]) {
                best = new int[] {worst, x};
            }
        }
        games.put((t * 10 + a) * 10 + b, best[0]);
        return best;
    }

    int game(int a, int b, int t, int what) {
        if (out(a, 0, 9) || out(b, 0, 9) || out(t, 0, 20) || out(what, 0, 1)) {
            return BAD;
        }
        games.remove((t * 10 + a) * 10 + b);
        return play(a, b, t)[what];
    }

    int left(int sheet, int i, int n, int h, int b, int what) {
        if (out(sheet, 0, 7) || out(n, 1, 20) || out(h, 1, 999) || b <= h || b > 1999 || out(what, 0, 2)) {
            return BAD;
        }
        if (sheets[sheet] == null) {
            return found(1);
        }
        if (beyond(sheet, i, n)) {
            return found(2);
        }
        int bits = 0;
        List<Integer> lefts = new ArrayList<>();
        for (int start = 0; start < 10; start++) {
            int breath = start;
            boolean could = true;
            for (int k = 0; k < n; k++) {
                if (sheets[sheet][i + k] < (h + b) / 2) {
                    breath = breath == 9 ? 9 : breath + 1;
                } else if (breath < 2) {
                    could = false;
                } else {
                    breath -= 2;
                }
            }
            if (could) {
                bits += 1 << start;
                lefts.add(breath);
            }
        }
        if (what == 0) {
            return well(bits);
        }
        if (lefts.isEmpty()) {
            return well(NONE);
        }
        return well(what == 1 ? lefts.stream().min(Integer::compare).get() : lefts.stream().max(Integer::compare).get());
    }

    int read(int side) {
        if (out(side, 0, 1)) {
            return BAD;
        }
        if (rope == null) {
            return STATE;
        }
        List<Tenth> kept = rope.kept();
        for (int n = 1; n <= 30 && n < kept.size(); n++) {
            boolean round = true;
            for (int k = 0; k + n < kept.size(); k++) {
                round &= kept.get(k).told()[side] == kept.get(k + n).told()[side];
            }
            if (round) {
                return n;
            }
        }
        return NONE;
    }

    int image(int k) {
        if (out(k, 0, 1)) {
            return BAD;
        }
        if (bout == null) {
            return STATE;
        }
        images[k] = new Object[] {bout, grips.clone(), rope == null ? null : rope.twin()};
        return 1;
    }

    int restore(int k) {
        if (out(k, 0, 1)) {
            return BAD;
        }
        if (images[k] == null) {
            return STATE;
        }
        bout = (Bout) images[k][0];
        grips = ((int[]) images[k][1]).clone();
        rope = images[k][2] == null ? null : ((Rope) images[k][2]).twin();
        if (rope != null) {
            rope.grips = grips;
        }
        return 1;
    }

    private Deed deed(int side, int puller) {
        Ask ask = new Ask();
        ask.puller = puller;
        ask.force = latest().force()[side][puller];
        ask.breath = rope.breath[side][puller];
        ask.lag = bout.teams().get(side).pullers().get(puller).lag();
        return switch (latest().did()[side][puller]) {
            case 0 -> new Held(ask);
            case 1 -> new Heaved(ask);
            case 2 -> new Countered(ask);
            case 3 -> new Rested(ask);
            default -> new Spent(ask);
        };
    }

    int kind(int side, int puller) {
        if (noPuller(side, puller)) {
            return BAD;
        }
        if (latest() == null) {
            return STATE;
        }
        Deed d = deed(side, puller);
        return d instanceof Countered ? 3 : d instanceof Heaved ? 2 : d instanceof Rested ? 4 : d instanceof Held ? 1 : 5;
    }

    int as(int side, int puller, int kind) {
        if (noPuller(side, puller) || out(kind, 0, 5)) {
            return BAD;
        }
        if (latest() == null) {
            return STATE;
        }
        Class<?>[] kinds = {Deed.class, Held.class, Heaved.class, Countered.class, Rested.class, Spent.class};
        Deed d = deed(side, puller);
        return kinds[kind].isInstance(d) ? well(d.ask().force) : found(3);
    }

    int ask(int side, int puller, int what) {
        if (noPuller(side, puller) || out(what, 0, 1)) {
            return BAD;
        }
        if (latest() == null) {
            return STATE;
        }
        Deed d = deed(side, puller);
        int answer = what == 0 ? d.size() : d.mark();
        trace = d.ask().trace;
        return answer;
    }

    int trace(int i) {
        return i >= 0 && i < Math.min(16, trace.size()) ? trace.get(i) : NONE;
    }

    int count(int what) {
        if (out(what, 0, 7)) {
            return BAD;
        }
        if (what == 0) {
            return (int) Arrays.stream(sheets).filter(s -> s != null).count();
        }
        if (what == 5) {
            return tape.length();
        }
        if (what == 7) {
            return rope == null ? 0 : rope.kept().size();
        }
        if (bout == null) {
            return 0;
        }
        return what == 6 ? bout.far() : what < 3 ? bout.teams().get(what - 1).pullers().size()
            : bout.teams().get(what - 3).rules().size();
    }

    int status() {
        return finding;
    }
}
