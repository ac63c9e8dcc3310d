/** Each promise by hand: ordinary inputs, the edges that the document names, wrong inputs. */
public final class PromiseTest {
    private static final int NONE = HeelsIn.NONE, BAD = HeelsIn.BAD, STATE = HeelsIn.STATE, FULL = HeelsIn.FULL;
    private static final int NULL = -1000011, PLACE = -1000012, KIND = -1000013, SIZE = -1000014, STORE = -1000015;
    private static final int HIGH = Integer.MAX_VALUE, LOW = Integer.MIN_VALUE;

    private static final String TWO = "side;puller 80 50 90 5 0;side;puller 70 40 80 9 1;";

    private PromiseTest() {
    }

    public static void main(String[] args) {
        newObject();
        sheet();
        set();
        copy();
        drop();
        feed();
        match();
        faultPlaces();
        faultNumbers();
        faultRoom();
        faultBesideOlderBytes();
        faultStays();
        puller();
        begin();
        go();
        forces();
        breaths();
        rules();
        lags();
        grips();
        told();
        pull();
        won();
        doing();
        later();
        three();
        together();
        stands();
        chosen();
        game();
        left();
        read();
        image();
        kind();
        as();
        ask();
        trace();
        count();
        status();
        Due.end("PromiseTest");
    }

    private static void is(String call, long got, long want) {
        Due.is(call, got, want);
    }

    private static void newObject() {
        HeelsIn x = new HeelsIn();
        for (int what = 0; what <= 7; what++) {
            is("1 count(" + what + ")", x.count(what), 0);
        }
        is("1 status", x.status(), 0);
        is("1 fault", x.fault(), 0);
        is("1 trace", x.trace(0), NONE);
        is("1 begin", x.begin(0), STATE);
        is("1 puller", x.puller(0, 0, 0), BAD);
        is("1 together", x.together(0, 0, 0), BAD);
        is("1 stands", x.stands(0, -1), BAD);
        is("1 chosen", x.chosen(0, 1, 0), STATE);
        is("1 three", x.three(1, 0), STATE);
        is("1 image", x.image(0), STATE);
        is("1 restore", x.restore(0), STATE);
        is("1 NONE", NONE, -1000000);
        is("1 BAD", BAD, -1000001);
        is("1 STATE", STATE, -1000002);
        is("1 FULL", FULL, -1000003);
    }

    private static void sheet() {
        HeelsIn x = new HeelsIn();
        is("2 n 40", x.sheet(7, 2, 40), 40);
        is("2 set", x.set(7, 39, 5), 5);
        is("2 in place", x.sheet(7, 1, 40), 40);
        is("2 zeroes", x.copy(7, 39, 7, 38, 1), 1);
        is("2 sheet 0", x.sheet(0, 1, 2), 2);
        is("2 zeroes told", x.copy(7, 39, 0, 0, 1), 1);
        is("2 n 0", x.sheet(7, 0, 0), 0);
        is("2 none there", x.set(7, 0, 0), PLACE);
        is("2 SHEET 8", x.sheet(8, 0, 0), BAD);
        is("2 SHEET -1", x.sheet(-1, 0, 0), BAD);
        is("2 LANE 3", x.sheet(0, 3, 0), BAD);
        is("2 LANE -1", x.sheet(0, -1, 0), BAD);
        is("2 n 41", x.sheet(0, 0, 41), BAD);
        is("2 BAD ahead of SIZE", x.sheet(0, 3, -1), BAD);
        is("2 SIZE", x.sheet(0, 0, -1), SIZE);
        is("2 status 4", x.status(), 4);
        is("2 SIZE, lowest", x.sheet(0, 0, LOW), SIZE);
        is("2 what was there stays", x.drop(0), 2);
        is("2 ITEMS are 0 at first", zeroes(), 6);
    }

    /** By left(): six of FORCE 0 are six holds; a sheet that was laid anew holds none of the older items. */
    private static int zeroes() {
        HeelsIn x = new HeelsIn();
        Due.lay(x, 0, 2, 99, 99, 99, 99, 99, 99);
        x.sheet(0, 2, 6);
        return x.left(0, 0, 6, 1, 4, 1);
    }

    private static void set() {
        HeelsIn x = new HeelsIn();
        x.sheet(0, 0, 2);
        x.sheet(1, 1, 2);
        x.sheet(2, 2, 2);
        is("3 byte", x.set(0, 0, 127), 127);
        is("3 byte 128", x.set(0, 1, 128), -128);
        is("3 byte 511", x.set(0, 1, 511), -1);
        is("3 byte -129", x.set(0, 1, -129), 127);
        is("3 short 32767", x.set(1, 0, 32767), 32767);
        is("3 short 32768", x.set(1, 0, 32768), -32768);
        is("3 short 65536", x.set(1, 0, 65536), 0);
        is("3 int", x.set(2, 1, HIGH), HIGH);
        is("3 int low", x.set(2, 1, LOW), LOW);
        is("3 SHEET 8", x.set(8, 0, 0), BAD);
        is("3 SHEET -1", x.set(-1, 0, 0), BAD);
        is("3 NULL", x.set(3, -1, 0), NULL);
        is("3 PLACE 2", x.set(0, 2, 0), PLACE);
        is("3 PLACE -1", x.set(0, -1, 0), PLACE);
        is("3 PLACE high", x.set(0, HIGH, 0), PLACE);
        is("3 PLACE low", x.set(0, LOW, 0), PLACE);
        is("3 status", x.status(), 2);
    }

    private static void copy() {
        HeelsIn x = new HeelsIn();
        Due.lay(x, 0, 2, 1, 3, 1, 3, 3, 3);
        x.sheet(1, 2, 6);
        x.sheet(2, 1, 6);
        is("4 n", x.copy(0, 1, 1, 0, 4), 4);
        // Of h 1, b 4 a FORCE of 2 or more is a burst: 3 1 3 3 0 0 from 9 on leaves 9-2+1-2-2+1+1 = 6.
        is("4 copied", x.left(1, 0, 6, 1, 4, 2), 6);
        is("4 copied from 4 on", x.left(1, 0, 6, 1, 4, 0), 1023 - 31);
        is("4 within one, forth", x.copy(0, 0, 0, 1, 5), 5);
        // 1 1 3 1 3 3: 0 began: 1 2 0 1 -; 1 began: 2 3 1 2 0 -; 2: 3 4 2 3 1 -; 3: 4 5 3 4 2 0.
        is("4 as they were ahead", x.left(0, 0, 6, 1, 4, 0), 1023 - 7);
        is("4 within one, back", x.copy(0, 2, 0, 0, 4), 4);
        // 3 1 3 3 3 3: 8 began: 6 7 5 3 1 -; 9: 7 8 6 4 2 0.
        is("4 as they were, back", x.left(0, 0, 6, 1, 4, 0), 1 << 9);
        is("4 n 0 at the ends", x.copy(0, 6, 1, 6, 0), 0);
        is("4 SHEET a", x.copy(8, 0, 0, 0, 0), BAD);
        is("4 SHEET b", x.copy(0, 0, -1, 0, 0), BAD);
        is("4 NULL a", x.copy(3, -1, 2, 0, 0), NULL);
        is("4 NULL b", x.copy(2, -1, 3, 0, 0), NULL);
        is("4 STORE ahead of PLACE", x.copy(0, 7, 2, 0, 1), STORE);
        is("4 status 5", x.status(), 5);
        is("4 PLACE i", x.copy(0, -1, 1, 0, 1), PLACE);
        is("4 PLACE j", x.copy(0, 0, 1, -1, 1), PLACE);
        is("4 PLACE n", x.copy(0, 0, 1, 0, -1), PLACE);
        is("4 PLACE i + n", x.copy(0, 1, 1, 0, 6), PLACE);
        is("4 PLACE j + n", x.copy(0, 0, 1, 1, 6), PLACE);
        is("4 PLACE i high", x.copy(0, HIGH, 1, 0, HIGH), PLACE);
        is("4 PLACE n high", x.copy(0, 1, 1, 1, HIGH), PLACE);
        is("4 PLACE n low", x.copy(0, 1, 1, 1, LOW), PLACE);
        is("4 nothing changed", x.left(0, 0, 6, 1, 4, 0), 1 << 9);
    }

    private static void drop() {
        HeelsIn x = new HeelsIn();
        x.sheet(3, 0, 7);
        is("5 count", x.count(0), 1);
        is("5 how many", x.drop(3), 7);
        is("5 count then", x.count(0), 0);
        is("5 NULL", x.drop(3), NULL);
        is("5 SHEET 8", x.drop(8), BAD);
        is("5 SHEET -1", x.drop(-1), BAD);
        is("5 status", x.status(), 1);
        is("5 laid again", x.sheet(3, 0, 1), 1);
        is("5 status 0", x.status(), 0);
    }

    private static void feed() {
        HeelsIn x = new HeelsIn();
        is("6 n 0", x.feed(0, 0), BAD);
        is("6 n 9", x.feed(0, 9), BAD);
        is("6 n -1", x.feed(0, -1), BAD);
        is("6 n high", x.feed(0, HIGH), BAD);
        is("6 n low", x.feed(0, LOW), BAD);
        int had = 0;
        for (int k = 0; k < 87; k++) {
            had += 8;
            is("6 eight", x.feed(-1L, 8), had);
        }
        is("6 five are beyond", x.feed(0, 5), FULL);
        is("6 none came", x.count(5), 696);
        is("6 four", x.feed(0, 4), 700);
        is("6 one more", x.feed(0, 1), FULL);
        is("6 BAD ahead of FULL", x.feed(0, 9), BAD);
        is("6 match empties", x.match(), -1000100);
        is("6 empty", x.count(5), 0);
        is("6 lowest, the highest first", x.feed(Due.word("xxxxside", 0, 8), 4), 4);
        is("6 lowest, the highest first: match", x.match(), -1000104);
        is("6 the others do not come", x.feed(Due.word("side", 0, 4), 5), 5);
        is("6 a byte 0 is none", x.match(), -1000100);
    }

    private static void match() {
        is("7 two", Due.match(new HeelsIn(), TWO), 2);
        String one = "puller 80 50 90 5 0;";
        is("7 five", Due.match(new HeelsIn(), "side;" + one.repeat(2) + "side;" + one.repeat(3)), 5);
        is("7 close", Due.match(new HeelsIn(), "side;puller80 50 90 5 0;puller 40-0;"), -1000133);
        is("7 close", Due.match(new HeelsIn(), "side;puller80 050\n90 5 000;side;puller150 1 1 1 5;ground1 0 1;"), 2);
        is("7 far", Due.match(new HeelsIn(), "  side \n;\n\npuller 40 200 400 60 5 ; side ; puller 40 1 1 1 0 ;\n "), 2);
        is("7 minus 0", Due.match(new HeelsIn(), "side;puller 80 50 90 5 -0;side;puller 80 50 90 5 -00;"), 2);
        String eight = "puller 40 1 1 1 0;".repeat(8);
        String six = "when tenth above-99rest;".repeat(6);
        HeelsIn x = new HeelsIn();
        is("7 sixteen, twelve", Due.match(x, "side;" + eight + six + "side;" + eight + six + "ground 100 20 99;"), 16);
        is("7 pullers 0", x.count(1), 8);
        is("7 pullers 1", x.count(2), 8);
        is("7 rules 0", x.count(3), 6);
        is("7 rules 1", x.count(4), 6);
        is("7 far 99", x.count(6), 99);
        is("7 in place", Due.match(x, TWO), 2);
        is("7 pullers 0 then", x.count(1), 1);
        is("7 rules 0 then", x.count(3), 0);
        is("7 rules 1 then", x.count(4), 0);
        is("7 far 20", x.count(6), 20);
        x.begin(0);
        is("7 grip 100", x.pull(3), 100);
        x.sheet(0, 0, 1);
        x.image(0);
        is("7 again", Due.match(x, TWO), 2);
        is("7 no PULL", x.pull(0), STATE);
        is("7 SHEETS stay", x.count(0), 1);
        is("7 IMAGES stay", x.restore(0), 1);
        is("7 the PULL is there again", x.pull(0), 0);
    }

    private static void faulted(String text, int place, int fault) {
        HeelsIn x = new HeelsIn();
        is("7 match() of '" + text + "'", Due.match(x, text), -1000100 - place);
        is("8 fault() of '" + text + "'", x.fault(), fault);
        is("7 tape of '" + text + "'", x.count(5), 0);
        is("7 begin() of '" + text + "'", x.begin(0), STATE);
    }

    private static void faultPlaces() {
        faulted("", 0, 1);
        faulted("   ", 3, 1);
        faulted(" side \n", 7, 1);
        faulted("sides;", 0, 1);
        faulted("sid;", 0, 1);
        faulted("sidea;", 0, 1);
        faulted("sidez;", 0, 1);
        faulted("side`;", 4, 1);
        faulted("side{;", 4, 1);
        faulted("side;puller 80/", 14, 1);
        faulted("side;puller 80:", 14, 1);
        faulted("Side;", 0, 1);
        faulted("ground 1 0 1;", 0, 1);
        faulted("side puller", 5, 1);
        faulted("side;;", 5, 1);
        faulted("side;side;", 5, 1);
        faulted("side;when breath above 1 hold;", 5, 1);
        faulted("side;ground 1 0 1;", 5, 1);
        faulted("side;puller;", 11, 1);
        faulted("side;puller heave", 12, 1);
        faulted("side;puller - 80", 12, 1);
        faulted("side;puller -;", 12, 1);
        faulted("side;puller --8", 12, 1);
        faulted("side;puller 0080 1 1 1 0;", 12, 1);
        faulted("side;puller -0080 1 1 1 0;", 12, 1);
        faulted("side;puller 80.1 1 1 0;", 14, 1);
        faulted("side;puller 80\t1 1 1 0;", 14, 1);
        faulted("side;puller 80 1 1 1 0 0;", 23, 1);
        faulted("side;puller 80 1 1 1 0;puller 80 1 1 1;", 38, 1);
        faulted("side;puller 80 1 1 1 0;puller 80 1 1 1 0", 40, 1);
        faulted(TWO + "side;", TWO.length(), 1);
        faulted(TWO + ";", TWO.length(), 1);
        faulted(TWO + "7", TWO.length(), 1);
        faulted(TWO + "ground;", TWO.length() + 6, 1);
        faulted(TWO + "ground 1 1 1 1;", TWO.length() + 13, 1);
        faulted(TWO + "ground 1 1 1;ground", TWO.length() + 13, 1);
        faulted(TWO + "ground 1 1 1;puller", TWO.length() + 13, 1);
        faulted(TWO + "ground 1 1 1; \n", 0, 0, true);
        faulted(TWO + "when;", TWO.length() + 4, 1);
        faulted(TWO + "when lag above 1 hold;", TWO.length() + 5, 1);
        faulted(TWO + "when breath over 1 hold;", TWO.length() + 12, 1);
        faulted(TWO + "when breath above hold;", TWO.length() + 18, 1);
        faulted(TWO + "when breath above 1000 hold;", TWO.length() + 18, 1);
        faulted(TWO + "when breath above 1 spent;", TWO.length() + 20, 1);
        faulted(TWO + "when breath above 1 hold hold;", TWO.length() + 25, 1);
        faulted(TWO + "when breath above 1 hold;puller 1", TWO.length() + 25, 1);
        faulted("side;puller 80 1 1 1 0;when tenth above 1 hold;puller 80 1 1 1 0;", 47, 1);
        faulted("side;puller 80 1 1 1 0;when tenth above 1 hold;ground 1 1 1;", 47, 1);
    }

    private static void faulted(String text, int place, int fault, boolean none) {
        HeelsIn x = new HeelsIn();
        is("7 match() of '" + text + "'", Due.match(x, text), none ? 2 : -1000100 - place);
        is("8 fault() of '" + text + "'", x.fault(), fault);
    }

    private static void faultNumbers() {
        faulted("side;puller 39 1 1 1 0;", 12, 2);
        faulted("side;puller 151 1 1 1 0;", 12, 2);
        faulted("side;puller -80 1 1 1 0;", 12, 2);
        faulted("side;puller 40 0 1 1 0;", 15, 2);
        faulted("side;puller 40 201 1 1 0;", 15, 2);
        faulted("side;puller 150 1 0 1 0;", 18, 2);
        faulted("side;puller 150 1 401 1 0;", 18, 2);
        faulted("side;puller 150 1 400 0 0;", 22, 2);
        faulted("side;puller 150 1 400 61 0;", 22, 2);
        faulted("side;puller 150 1 400 60 6;", 25, 2);
        faulted("side;puller 150 1 400 60 -1;", 25, 2);
        faulted("side;puller 39 1 1 1 0?", 12, 2);
        faulted(TWO + "when breath below -100 hold;", TWO.length() + 18, 2);
        faulted(TWO + "when breath below -999 hold;", TWO.length() + 18, 2);
        faulted(TWO + "ground 0 0 1;", TWO.length() + 7, 2);
        faulted(TWO + "ground 101 0 1;", TWO.length() + 7, 2);
        faulted(TWO + "ground 1 21 1;", TWO.length() + 9, 2);
        faulted(TWO + "ground 1 -1 1;", TWO.length() + 9, 2);
        faulted(TWO + "ground 1 0 0;", TWO.length() + 11, 2);
        faulted(TWO + "ground 1 0 100;", TWO.length() + 11, 2);
        faulted(TWO + "when breath below-99hold;when tenth above 999 rest;", 0, 0, true);
        faulted(TWO + "ground 100 20 99;", 0, 0, true);
        faulted(TWO + "ground 1 0 1;", 0, 0, true);
    }

    private static void faultRoom() {
        String puller = "puller 40 1 1 1 0;";
        String rule = "when tenth above 1 hold;";
        faulted("side;" + puller.repeat(9), 5 + 8 * puller.length(), 3);
        faulted("side;" + puller.repeat(8) + "puller", 5 + 8 * puller.length(), 3);
        faulted("side;" + puller + rule.repeat(7), 5 + puller.length() + 6 * rule.length(), 3);
        faulted("side;" + puller + rule.repeat(6) + puller, 5 + puller.length() + 6 * rule.length(), 1);
        String first = "side;" + puller.repeat(8) + rule.repeat(6);
        faulted(first + "side;" + puller.repeat(9), first.length() + 5 + 8 * puller.length(), 3);
        faulted(first + first + rule, 2 * first.length(), 3);
    }

    /** What an older text left behind the end of the tape is not read. */
    private static void faultBesideOlderBytes() {
        String[] older = {"z", "9", " ", ";", "-"};
        for (String sign : older) {
            HeelsIn x = new HeelsIn();
            Due.match(x, sign.repeat(700));
            is("7 side, then older '" + sign + "'", Due.match(x, "side"), -1000104);
            is("7 80, then older '" + sign + "'", Due.match(x, "side;puller 80"), -1000114);
            is("7 -, then older '" + sign + "'", Due.match(x, "side;puller -"), -1000112);
            is("7 blank, then older '" + sign + "'", Due.match(x, "side; "), -1000106);
        }
        faulted("z".repeat(700), 0, 1);
        faulted("9".repeat(700), 0, 1);
        faulted(" ".repeat(700), 700, 1);
        faulted("side;" + " ".repeat(695), 700, 1);
        faulted("side;puller " + "9".repeat(688), 12, 1);
        faulted("side;puller" + " ".repeat(687) + "80", 700, 1);
        faulted("side;puller 80" + " ".repeat(685) + "-", 699, 1);
    }

    private static void faultStays() {
        HeelsIn x = Due.of(TWO);
        is("8 none yet", x.fault(), 0);
        x.begin(1);
        x.go(2);
        is("7 fault", Due.match(x, "side;puller 80 1 1 1 6;"), -1000121);
        is("8 two", x.fault(), 2);
        is("7 MATCH stays", x.puller(0, 0, 1), 50);
        is("7 PULL stays", x.pull(1), 2);
        is("7 pullers stay", x.count(2), 1);
        is("7 good", Due.match(x, TWO), 2);
        is("8 the latest stays", x.fault(), 2);
        is("7 the end", Due.match(x, "side"), -1000104);
        is("8 one", x.fault(), 1);
    }

    private static void puller() {
        HeelsIn x = Due.of("side;puller 41 2 3 4 5;puller 80 50 90 5 0;side;puller 70 40 80 9 1;");
        for (int what = 0; what < 5; what++) {
            is("9 first", x.puller(0, 0, what), new int[] {41, 2, 3, 4, 5}[what]);
            is("9 second", x.puller(0, 1, what), new int[] {80, 50, 90, 5, 0}[what]);
            is("9 other", x.puller(1, 0, what), new int[] {70, 40, 80, 9, 1}[what]);
        }
        x.begin(0);
        x.go(3);
        is("9 as told", x.puller(0, 0, 3), 4);
        is("9 side 2", x.puller(2, 0, 0), BAD);
        is("9 side -1", x.puller(-1, 0, 0), BAD);
        is("9 puller 2", x.puller(0, 2, 0), BAD);
        is("9 puller 1", x.puller(1, 1, 0), BAD);
        is("9 puller -1", x.puller(0, -1, 0), BAD);
        is("9 what 5", x.puller(0, 0, 5), BAD);
        is("9 what -1", x.puller(0, 0, -1), BAD);
    }

    private static void begin() {
        HeelsIn x = new HeelsIn();
        is("10 BAD ahead of STATE", x.begin(2), BAD);
        is("10 STATE", x.begin(1), STATE);
        Due.match(x, "side;puller 80 100 200 5 0;when tenth above -1 heave;side;puller 70 40 80 9 1;ground 90 20 9;");
        is("10 -1", x.begin(-1), BAD);
        is("10 begins", x.begin(0), 1);
        is("10 goes", x.go(2), 2);
        is("10 grip 0", x.pull(3), 50);
        is("10 grip 1", x.pull(4), 90);
        is("10 changed", x.begin(1), 1);
        is("10 thread", x.pull(0), 0);
        is("10 tenths", x.pull(1), 0);
        is("10 GRIPS as they are", x.pull(3), 50);
        is("10 breath", x.doing(0, 0, 0), 5);
        is("10 none went by", x.doing(0, 0, 1), NONE);
        is("10 kept", x.count(7), 0);
        is("10 later", x.later(0, 0), NONE);
        is("10 gave", x.pull(5), NONE);
        is("10 goes", x.go(1), 1);
        is("10 END 1 is under SIDE 0", x.pull(4), 70);
        is("10 END 0 is under SIDE 1", x.pull(3), 50);
        is("10 FORCE by END 1", x.later(0, 2), 180);
        is("10 FORCE by END 0", x.later(0, 3), 20);
    }

    private static void go() {
        HeelsIn x = new HeelsIn();
        is("11 n 0", x.go(0), BAD);
        is("11 n 101", x.go(101), BAD);
        is("11 n -1", x.go(-1), BAD);
        is("11 no MATCH", x.go(1), STATE);
        Due.match(x, TWO);
        is("11 no PULL", x.go(100), STATE);
        x.begin(0);
        is("11 hundred", x.go(100), 100);
        is("11 gone", x.pull(1), 100);
        Due.match(x, "side;puller 80 200 300 60 0;side;puller 70 40 80 9 1;ground 100 0 5;");
        x.begin(0);
        is("11 till one has WON", x.go(100), 5);
        is("11 won", x.pull(2), 0);
        is("11 nothing goes on", x.go(1), 0);
        is("11 gone", x.pull(1), 5);
    }

    private static void forces() {
        String side = "side;puller 80 101 207 60 0;";
        int[][] orders = {{0, 101, 101}, {1, 207, 207}, {2, 50, 154}, {3, 50, 50}};
        for (int[] own : orders) {
            for (int[] other : orders) {
                HeelsIn x = Due.of(side + side + "ground 77 0 99;");
                Due.lay(x, 0, 0, own[0], other[0]);
                x.begin(0);
                x.told(0, 0, 1);
                int force0 = own[other[0] == 1 ? 2 : 1];
                int force1 = other[own[0] == 1 ? 2 : 1];
                is("14 force " + own[0] + " against " + other[0], x.doing(0, 0, 2), force0);
                is("14 force " + other[0] + " against " + own[0], x.doing(1, 0, 2), force1);
                is("15 force of side 0", x.later(0, 2), force0 * 77 / 100);
                is("15 force of side 1", x.later(0, 3), force1 * 77 / 100);
                is("13 thread", x.pull(0), (force0 * 77 / 100 - force1 * 77 / 100) / 100);
                is("14 did", x.doing(0, 0, 1), own[0]);
            }
        }
        HeelsIn y = Due.of("side;puller 80 99 99 1 0;puller 80 99 99 1 0;side;puller 80 1 1 1 0;ground 50 0 99;");
        y.begin(0);
        y.go(1);
        is("15 added, then times GRIP", y.later(0, 2), 99);
        y.go(1);
        is("14 spent: HOLD by 4, each cut", y.doing(0, 1, 2), 24);
        is("15 spent: added", y.later(0, 2), 24);
    }

    private static void breaths() {
        HeelsIn x = Due.of("side;puller 80 50 90 4 0;side;puller 80 50 90 4 0;");
        // Told to side 0, and the breath behind it, from 4 on; 4: spent.
        int[][] run = {
            {3, 4, 3}, {0, 3, 0}, {3, 4, 3}, {1, 1, 1}, {1, 2, 4}, {2, 0, 2}, {2, 1, 4}, {2, 2, 4}, {2, 0, 2},
            {0, 1, 4}, {0, 0, 0}, {3, 2, 3}, {1, 3, 4}, {1, 0, 1}, {3, 2, 3}, {3, 4, 3}, {3, 4, 3},
        };
        x.sheet(0, 0, 2);
        x.begin(0);
        for (int k = 0; k < run.length; k++) {
            x.set(0, 0, run[k][0]);
            x.set(0, 1, 3);
            x.told(0, 0, 1);
            is("14 breath " + k, x.doing(0, 0, 0), run[k][1]);
            is("14 did " + k, x.doing(0, 0, 1), run[k][2]);
        }
        is("13 gave", x.pull(5), 0);
        is("13 in which", x.pull(6), 4);
        HeelsIn y = Due.of("side;puller 80 50 90 1 0;side;puller 80 50 90 1 0;");
        y.begin(0);
        y.go(2);
        is("14 spent: as told at most", y.doing(0, 0, 0), 1);
        y.go(1);
        is("14 held", y.doing(0, 0, 0), 0);
        is("13 SIDE 0 ahead of 1", y.pull(5), 0);
        is("13 in TENTH 1", y.pull(6), 1);
        HeelsIn z = Due.of("side;puller 80 50 90 9 0;puller 80 50 90 3 0;side;puller 80 50 90 9 0;puller 80 50 90 2 0;"
            + "puller 80 50 90 2 0;");
        z.begin(0);
        z.go(6);
        is("13 the first of SIDE 1", z.pull(5), 9);
        is("13 in TENTH 2", z.pull(6), 2);
    }

    /** Two alike, one rule for side 0: what it tells in each of the first tenths. */
    private static void ruled(String rule, int... orders) {
        HeelsIn x = Due.of("side;puller 80 50 200 10 5;puller 80 50 200 5 5;" + rule
            + "side;puller 80 50 200 20 5;puller 80 50 200 5 5;puller 80 50 200 3 5;");
        x.begin(0);
        for (int k = 0; k < orders.length; k++) {
            x.go(1);
            is("11 " + rule + " in " + k, x.later(0, 0), orders[k]);
        }
    }

    private static void rules() {
        ruled("", 0, 0, 0);
        // (10 + 5) / 2 = 7, then (9 + 4) / 2 = 6, (8 + 3) / 2 = 5.
        ruled("when breath below 6 rest;", 0, 0, 3);
        ruled("when breath above 5 counter;", 2, 2, 0);
        // (20 + 5 + 3) / 3 = 9, then 8, 7.
        ruled("when theirs below 8 heave;", 0, 0, 1);
        ruled("when theirs above 7 heave;", 1, 1, 0);
        ruled("when tenth above 1 rest;", 0, 0, 3, 3);
        ruled("when tenth below 2 rest;", 3, 3, 0, 0);
        ruled("when tenth above 0 rest;when tenth above 1 heave;", 0, 3, 3);
        ruled("when tenth above 1 heave;when tenth above 0 rest;", 0, 3, 1);
        ruled("when tenth below -99 heave;", 0, 0);
        ruled("when thread above -1 hold;when tenth above 0 rest;", 0, 0);
        HeelsIn x = Due.of("side;puller 80 200 300 60 0;when thread above 3 heave;when thread above 1 rest;"
            + "side;puller 80 50 80 60 0;when thread below -3 counter;when thread below 0 rest;");
        x.begin(0);
        x.go(10);
        // 200 less 50, 200 less 25, then both rest.
        int[][] tells = {{0, 0}, {0, 3}, {3, 3}, {3, 3}, {3, 3}};
        int[] threads = {1, 2, 2, 2, 2};
        for (int k = 0; k < 5; k++) {
            is("11 thread, side 0 in " + k, x.later(9 - k, 0), tells[k][0]);
            is("11 thread, side 1 in " + k, x.later(9 - k, 1), tells[k][1]);
            is("15 thread behind " + k, x.later(9 - k, 4), threads[k]);
        }
    }

    private static void lags() {
        for (int lag = 0; lag <= 5; lag++) {
            HeelsIn x = Due.of("side;puller 80 50 90 60 " + lag + ";side;puller 80 50 90 60 0;");
            x.begin(0);
            Due.lay(x, 0, 0, 1, 3, 3, 3, 2, 3, 3, 3, 1, 3);
            int[] told = {1, 3, 2, 3, 1, 0, 0, 0, 0, 0};
            for (int k = 0; k < 10; k++) {
                if (k < 5) {
                    x.told(0, 2 * k, 1);
                } else {
                    x.go(1);
                }
                is("14 lag " + lag + " in " + k, x.doing(0, 0, 1), k < lag ? 0 : told[k - lag]);
            }
            x.begin(0);
            x.go(1);
            is("14 lag " + lag + " ahead of the first", x.doing(0, 0, 1), 0);
        }
    }

    private static void grips() {
        HeelsIn x = Due.of("side;puller 80 50 90 60 2;side;puller 80 50 90 60 0;ground 50 20 99;");
        Due.lay(x, 0, 0, 1, 0, 0, 1, 1, 2, 1, 3);
        x.begin(0);
        int[][] due = {{30, 50}, {30, 30}, {10, 30}, {1, 30}};
        for (int k = 0; k < 4; k++) {
            x.told(0, 2 * k, 1);
            is("13 grip of END 0 in " + k, x.pull(3), due[k][0]);
            is("13 grip of END 1 in " + k, x.pull(4), due[k][1]);
        }
        x.begin(1);
        x.told(0, 0, 2);
        is("13 changed: END 1", x.pull(4), 10);
        is("13 changed: END 0", x.pull(3), 1);
        Due.match(x, TWO + "ground 33 0 99;");
        x.begin(0);
        is("13 a new match", x.pull(3), 33);
        x.told(0, 0, 4);
        is("13 WEAR 0", x.pull(3), 33);
    }

    private static void told() {
        HeelsIn x = new HeelsIn();
        is("12 n 0", x.told(0, 0, 0), BAD);
        is("12 n 21", x.told(0, 0, 21), BAD);
        is("12 SHEET 8", x.told(8, 0, 1), BAD);
        is("12 SHEET -1", x.told(-1, 0, 1), BAD);
        is("12 STATE ahead of NULL", x.told(0, 0, 1), STATE);
        Due.match(x, "side;puller 80 200 300 60 0;when tenth above -1 rest;side;puller 70 40 80 9 1;ground 100 0 5;");
        is("12 STATE", x.told(0, 0, 1), STATE);
        x.begin(0);
        is("12 NULL", x.told(0, -1, 1), NULL);
        is("12 status", x.status(), 1);
        Due.lay(x, 0, 0, 9, 3, 3, 3, 3, 4, 0, 0, 3, -1);
        is("12 PLACE i", x.told(0, -1, 1), PLACE);
        is("12 PLACE beyond", x.told(0, 9, 1), PLACE);
        is("12 PLACE n", x.told(0, 1, 5), PLACE);
        is("12 PLACE high", x.told(0, HIGH, 20), PLACE);
        is("12 PLACE low", x.told(0, LOW, 20), PLACE);
        is("12 PLACE ahead of an ITEM", x.told(0, 0, 6), PLACE);
        is("12 status 2", x.status(), 2);
        is("12 ITEM 9", x.told(0, 0, 1), BAD);
        is("12 ITEM 4", x.told(0, 4, 1), BAD);
        is("12 ITEM 4, later", x.told(0, 1, 3), BAD);
        is("12 ITEM -1", x.told(0, 8, 1), BAD);
        is("12 status stays", x.status(), 2);
        is("12 none went by", x.pull(1), 0);
        is("12 two", x.told(0, 1, 2), 2);
        is("12 status 0", x.status(), 0);
        is("12 in place of rules", x.later(0, 1), 3);
        is("12 one", x.told(0, 6, 1), 1);
        is("12 hold", x.later(0, 0), 0);
        Due.lay(x, 1, 2, new int[40]);
        is("12 till one has WON", x.told(1, 0, 20), 4);
        is("12 won", x.pull(2), 0);
        is("12 nothing goes on", x.told(1, 0, 20), 0);
        is("12 PLACE then, too", x.told(1, 1, 20), PLACE);
        is("12 ITEM then, too", x.told(0, 0, 1), BAD);
    }

    private static void pull() {
        HeelsIn x = new HeelsIn();
        is("13 what 7", x.pull(7), BAD);
        is("13 what -1", x.pull(-1), BAD);
        is("13 STATE", x.pull(6), STATE);
        Due.match(x, "side;puller 80 50 90 1 0;side;puller 80 50 90 1 0;ground 64 3 9;");
        is("13 no PULL", x.pull(0), STATE);
        x.begin(0);
        int[] first = {0, 0, NONE, 64, 64, NONE, NONE};
        for (int what = 0; what < 7; what++) {
            is("13 first " + what, x.pull(what), first[what]);
        }
    }

    private static void won() {
        String strong = "side;puller 80 200 300 60 0;puller 80 200 300 60 0;";
        String weak = "side;puller 80 1 2 60 0;";
        HeelsIn x = Due.of(strong + weak + "ground 100 0 7;");
        x.begin(0);
        is("13 by 3 at most", x.go(1), 1);
        is("13 thread", x.pull(0), 3);
        is("13 not yet", x.pull(2), NONE);
        is("13 two more", x.go(9), 2);
        is("13 beyond FAR", x.pull(0), 9);
        is("13 SIDE 0", x.pull(2), 0);
        x.begin(0);
        is("13 anew", x.pull(2), NONE);
        HeelsIn y = Due.of(weak + strong + "ground 100 0 6;");
        y.begin(0);
        is("13 two", y.go(9), 2);
        is("13 at -FAR", y.pull(0), -6);
        is("13 SIDE 1", y.pull(2), 1);
    }

    private static void doing() {
        HeelsIn x = new HeelsIn();
        is("14 no such puller", x.doing(0, 0, 0), BAD);
        Due.match(x, TWO);
        is("14 STATE", x.doing(0, 0, 2), STATE);
        is("14 what 3", x.doing(0, 0, 3), BAD);
        is("14 what -1", x.doing(0, 0, -1), BAD);
        is("14 puller 1", x.doing(0, 1, 0), BAD);
        is("14 side 2", x.doing(2, 0, 0), BAD);
        x.begin(0);
        is("14 breath", x.doing(1, 0, 0), 9);
        is("14 did", x.doing(1, 0, 1), NONE);
        is("14 force", x.doing(1, 0, 2), NONE);
        x.go(6);
        is("14 breath 0", x.doing(0, 0, 0), 1);
        is("14 spent", x.doing(0, 0, 1), 4);
        is("14 force 12", x.doing(0, 0, 2), 12);
        is("14 breath 3", x.doing(1, 0, 0), 3);
    }

    private static void later() {
        HeelsIn x = new HeelsIn();
        is("15 ago -1", x.later(-1, 0), BAD);
        is("15 what 5", x.later(0, 5), BAD);
        is("15 what -1", x.later(0, -1), BAD);
        is("15 STATE", x.later(0, 4), STATE);
        Due.match(x, "side;puller 80 50 90 60 0;when tenth above 69 rest;when tenth below 5 heave;"
            + "side;puller 80 50 90 60 0;");
        is("15 no PULL", x.later(0, 0), STATE);
        x.begin(0);
        is("15 none", x.later(0, 0), NONE);
        x.go(60);
        is("15 sixty", x.count(7), 60);
        is("15 the first", x.later(59, 0), 1);
        is("15 not so many", x.later(60, 0), NONE);
        is("15 high", x.later(HIGH, 0), NONE);
        x.go(4);
        is("15 sixty still", x.count(7), 60);
        is("15 the first kept", x.later(59, 0), 1);
        is("15 the next", x.later(58, 0), 0);
        is("15 not so many still", x.later(60, 0), NONE);
        x.go(7);
        is("15 latest", x.later(0, 0), 3);
        is("15 the one ahead", x.later(1, 0), 0);
        is("15 forces", x.later(0, 2), 25);
        is("15 forces of 1", x.later(0, 3), 12);
    }

    private static void three() {
        HeelsIn x = new HeelsIn();
        is("16 n 0", x.three(0, 0), BAD);
        is("16 n 201", x.three(201, 0), BAD);
        is("16 what 4", x.three(1, 4), BAD);
        is("16 what -1", x.three(1, -1), BAD);
        is("16 STATE", x.three(200, 3), STATE);
        String heaver = "side;puller 80 100 200 60 0;when tenth below 5 heave;";
        String holder = "side;puller 80 150 150 60 0;";
        // Its own end wears to 1 in pull 0; changed ends serve it in pull 1, and it wears the other one to 1, too.
        Due.match(x, heaver + holder + "ground 100 20 99;");
        x.begin(0);
        x.go(3);
        int grip = x.pull(3);
        is("16 pull 0", x.three(200, 0), 1);
        is("16 pull 1", x.three(200, 1), 0);
        is("16 pull 2", x.three(200, 2), NONE);
        is("16 most", x.three(200, 3), NONE);
        is("16 GRIPS stay", x.pull(3), grip);
        is("16 the PULL stays", x.pull(1), 3);
        is("16 again", x.three(200, 1), 0);
        Due.match(x, holder + heaver + "ground 100 20 99;");
        is("16 turned 0", x.three(200, 0), 0);
        is("16 turned 1", x.three(200, 1), 1);
        is("16 turned most", x.three(200, 3), NONE);
        is("16 one TENTH: 200 against 150", x.three(1, 0), NONE);
        String eightOnce = "side;" + "puller 80 100 200 60 0;".repeat(8) + "when tenth below 1 heave;";
        String eightHold = "side;" + "puller 80 105 105 60 0;".repeat(8);
        // Pull 0: 3, then less 2 each; pull 1: 3, then as it is; pull 2: 3, then less 1 each.
        Due.match(x, eightOnce + eightHold + "ground 100 20 20;");
        int[] of20 = {1, 0, 1, 1};
        int[] of3 = {1, 0, 0, 0};
        for (int what = 0; what < 4; what++) {
            is("16 of 20: " + what, x.three(20, what), of20[what]);
            is("16 of 3: " + what, x.three(3, what), of3[what]);
        }
        Due.match(x, eightHold + eightOnce + "ground 100 20 20;");
        is("16 of 20, turned", x.three(20, 3), 0);
        is("16 of 3, turned", x.three(3, 3), 1);
        Due.match(x, TWO);
        is("16 nobody", x.three(3, 2), NONE);
        is("16 nobody most", x.three(3, 3), NONE);
        Due.match(x, "side;puller 80 200 200 60 0;side;puller 80 100 200 60 0;when tenth below 1 counter;");
        is("16 not WON", x.three(1, 0), 0);
        is("16 not WON, most", x.three(1, 3), 0);
    }

    private static void together() {
        HeelsIn x = new HeelsIn();
        is("17 no MATCH", x.together(0, 0, 0), BAD);
        Due.match(x, "side;puller 80 10 100 5 5;puller 80 20 50 5 3;puller 80 30 80 5 3;side;puller 80 50 40 5 2;");
        is("17 side 2", x.together(2, 0, 0), BAD);
        is("17 side -1", x.together(-1, 0, 0), BAD);
        is("17 e 51", x.together(0, 51, 0), BAD);
        is("17 e -1", x.together(0, -1, 0), BAD);
        is("17 what 2", x.together(0, 0, 2), BAD);
        is("17 what -1", x.together(0, 0, -1), BAD);
        // Without: TENTH 3: 10 + 50 + 80, TENTH 5: 100 + 20 + 30: the greatest.
        is("17 force", x.together(0, 0, 0), 150);
        is("17 tenth", x.together(0, 0, 1), 5);
        // Lags 5 3 3, 4 2 2, 3 1 1, 2 0 0, 1 0 0, 0 0 0.
        int[] tenths = {5, 4, 3, 2, 1, 0};
        for (int e = 1; e <= 5; e++) {
            is("17 tenth " + e, x.together(0, e, 1), tenths[e]);
            is("17 force " + e, x.together(0, e, 0), e == 5 ? 230 : 150);
        }
        is("17 e 50", x.together(0, 50, 0), 230);
        is("17 BURST below HOLD: the first", x.together(1, 0, 1), 0);
        is("17 BURST below HOLD", x.together(1, 0, 0), 50);
        is("17 never above HOLD but by practice", x.together(1, 50, 1), 1);
    }

    private static void stands() {
        HeelsIn x = new HeelsIn();
        is("18 no MATCH", x.stands(0, 0), BAD);
        Due.match(x, "side;puller 100 10 100 5 0;puller 50 10 200 5 0;puller 150 10 100 5 0;"
            + "side;puller 50 10 100 5 0;puller 50 10 100 5 0;");
        is("18 place -2", x.stands(0, -2), BAD);
        is("18 place low", x.stands(0, LOW), BAD);
        is("18 side 2", x.stands(2, -1), BAD);
        is("18 side -1", x.stands(-1, -1), BAD);
        // Factors 88, 91, 94 + 10: the burst of 200 stands last; of 100 and 150 kg the heavier is at 1.
        is("18 worth", x.stands(0, -1), 100 * 88 + 100 * 91 + 150 + 200 * 104 + 100);
        is("18 place 0", x.stands(0, 0), 0);
        is("18 place 1", x.stands(0, 1), 2);
        is("18 place 2", x.stands(0, 2), 1);
        is("18 place 3", x.stands(0, 3), NONE);
        is("18 place high", x.stands(0, HIGH), NONE);
        is("18 alike: the least first", x.stands(1, 0), 0);
        is("18 alike: then the next", x.stands(1, 1), 1);
        is("18 alike: none", x.stands(1, 2), NONE);
        is("18 worth of two", x.stands(1, -1), 100 * 88 + 100 * 101 + 50);
        Due.match(x, TWO);
        is("18 one", x.stands(0, -1), 90 * 98);
    }

    private static void chosen() {
        HeelsIn x = new HeelsIn();
        is("19 w -1", x.chosen(-1, 1, 0), BAD);
        is("19 w 2001", x.chosen(2001, 1, 0), BAD);
        is("19 n 0", x.chosen(0, 0, 0), BAD);
        is("19 n 17", x.chosen(0, 17, 0), BAD);
        is("19 what 2", x.chosen(0, 1, 2), BAD);
        is("19 what -1", x.chosen(0, 1, -1), BAD);
        is("19 STATE", x.chosen(2000, 16, 1), STATE);
        Due.match(x, "side;puller 100 50 1 1 0;puller 60 30 1 1 0;side;puller 60 30 1 1 0;puller 40 20 1 1 0;");
        is("19 none", x.chosen(39, 4, 0), 0);
        is("19 none: HOLD", x.chosen(39, 4, 1), 0);
        is("19 all", x.chosen(2000, 16, 0), 15);
        is("19 all: HOLD", x.chosen(2000, 16, 1), 130);
        is("19 one", x.chosen(2000, 1, 0), 1);
        is("19 of 100: the least as bits", x.chosen(100, 4, 0), 1);
        is("19 of 100, HOLD", x.chosen(100, 4, 1), 50);
        is("19 of 99", x.chosen(99, 4, 0), 2);
        is("19 of 120", x.chosen(120, 4, 0), 6);
        is("19 of 160: 50 and 30, or 30 and 30 and 20", x.chosen(160, 4, 0), 3);
        is("19 two of 160", x.chosen(160, 2, 1), 80);
        is("19 weight and number", x.chosen(140, 2, 0), 9);
    }

    private static void game() {
        HeelsIn x = new HeelsIn();
        int[][] wrong = {{10, 0, 0, 0}, {-1, 0, 0, 0}, {0, 10, 0, 0}, {0, -1, 0, 0}, {0, 0, 21, 0}, {0, 0, -1, 0},
            {0, 0, 0, 2}, {0, 0, 0, -1}};
        for (int[] w : wrong) {
            is("20 BAD", x.game(w[0], w[1], w[2], w[3]), BAD);
        }
        is("20 t 0", x.game(9, 9, 0, 0), 0);
        is("20 t 0: BEST", x.game(9, 9, 0, 1), NONE);
        is("20 t 20 first", x.game(9, 9, 20, 0), -18);
        is("20 heave where none can counter", x.game(2, 0, 1, 0), 2);
        is("20 heave where none can counter: BEST", x.game(2, 0, 1, 1), 1);
        is("20 against 1", x.game(2, 1, 1, 1), 0);
        is("20 against 1: VALUE", x.game(2, 1, 1, 0), 0);
        is("20 counter is no better", x.game(1, 2, 1, 0), -1);
        is("20 counter: hold against it", x.game(1, 2, 1, 1), 2);
        is("20 a is not b", x.game(0, 2, 1, 0), -2);
    }

    private static void left() {
        HeelsIn x = new HeelsIn();
        int[][] wrong = {{8, 0, 1, 1, 2, 0}, {-1, 0, 1, 1, 2, 0}, {0, 0, 0, 1, 2, 0}, {0, 0, 21, 1, 2, 0},
            {0, 0, 1, 0, 2, 0}, {0, 0, 1, 1000, 1001, 0}, {0, 0, 1, 2, 2, 0}, {0, 0, 1, 2, 1, 0}, {0, 0, 1, 1, 2000, 0},
            {0, 0, 1, 1, 2, 3}, {0, 0, 1, 1, 2, -1}};
        for (int[] w : wrong) {
            is("21 BAD", x.left(w[0], w[1], w[2], w[3], w[4], w[5]), BAD);
        }
        is("21 NULL", x.left(0, -1, 1, 999, 1999, 0), NULL);
        is("21 status", x.status(), 1);
        Due.lay(x, 0, 1, 100, 151, 150, 149, 300, -5);
        is("21 PLACE", x.left(0, -1, 1, 1, 2, 0), PLACE);
        is("21 PLACE beyond", x.left(0, 1, 6, 1, 2, 0), PLACE);
        is("21 PLACE high", x.left(0, HIGH, 20, 1, 2, 0), PLACE);
        is("21 status", x.status(), 2);
        // h 100, b 201: 150 or more was a burst: hold burst burst hold burst hold.
        // 3: 4 2 0 1 -; 4: 5 3 1 2 0 1; 9: 9 7 5 6 4 5; 8: 9 7 ..
        is("21 which", x.left(0, 0, 6, 100, 201, 0), 1023 - 15);
        is("21 least", x.left(0, 0, 6, 100, 201, 1), 1);
        is("21 greatest", x.left(0, 0, 6, 100, 201, 2), 5);
        is("21 one hold", x.left(0, 0, 1, 100, 201, 0), 1023);
        is("21 one hold: least", x.left(0, 0, 1, 100, 201, 1), 1);
        is("21 one hold: 9 at most", x.left(0, 0, 1, 100, 201, 2), 9);
        is("21 one burst", x.left(0, 1, 1, 100, 201, 0), 1023 - 3);
        is("21 one burst: least", x.left(0, 1, 1, 100, 201, 1), 0);
        is("21 one burst: greatest", x.left(0, 1, 1, 100, 201, 2), 7);
        is("21 149 is a hold", x.left(0, 3, 1, 100, 201, 0), 1023);
        is("21 150 is a burst", x.left(0, 2, 1, 100, 201, 0), 1023 - 3);
        is("21 status 0", x.status(), 0);
        Due.lay(x, 1, 2, 9, 9, 9, 9, 9);
        is("21 none can", x.left(1, 0, 5, 1, 2, 0), 0);
        is("21 none can: least", x.left(1, 0, 5, 1, 2, 1), NONE);
        is("21 none can: greatest", x.left(1, 0, 5, 1, 2, 2), NONE);
        is("21 status then", x.status(), 0);
        is("21 four", x.left(1, 0, 4, 1, 2, 0), 3 << 8);
    }

    private static void reads(int[] orders, int due) {
        HeelsIn x = Due.of("side;puller 80 50 50 60 0;side;puller 80 50 50 60 0;ground 100 0 99;");
        x.begin(0);
        x.sheet(0, 0, 2);
        for (int order : orders) {
            x.set(0, 0, order);
            x.told(0, 0, 1);
        }
        is("22 read", x.read(0), due);
        is("22 read of the other", x.read(1), orders.length > 1 ? 1 : NONE);
    }

    private static int[] round(int n, int tenths) {
        int[] orders = new int[tenths];
        for (int k = 0; k < tenths; k += n) {
            orders[k] = 1;
        }
        return orders;
    }

    private static void read() {
        HeelsIn x = new HeelsIn();
        is("22 side 2", x.read(2), BAD);
        is("22 side -1", x.read(-1), BAD);
        is("22 STATE", x.read(0), STATE);
        reads(new int[] {}, NONE);
        reads(new int[] {1}, NONE);
        reads(new int[] {1, 1}, 1);
        reads(new int[] {1, 0}, NONE);
        reads(new int[] {1, 0, 1}, 2);
        reads(new int[] {1, 0, 0, 1, 0}, 3);
        reads(new int[] {1, 0, 0, 0, 0}, NONE);
        reads(new int[] {1, 2, 1, 3, 1, 2, 1}, 4);
        reads(round(30, 31), 30);
        reads(round(31, 32), NONE);
        reads(round(29, 60), 29);
        // The first tenth is not kept any more.
        int[] long61 = round(3, 61);
        long61[0] = 2;
        reads(long61, 3);
        long61[1] = 2;
        reads(long61, NONE);
    }

    private static void image() {
        HeelsIn x = new HeelsIn();
        is("23 k 2", x.image(2), BAD);
        is("23 k -1", x.image(-1), BAD);
        is("23 STATE", x.image(1), STATE);
        is("24 k 2", x.restore(2), BAD);
        is("24 k -1", x.restore(-1), BAD);
        is("24 STATE", x.restore(1), STATE);
        Due.match(x, "side;puller 80 50 190 30 1;when tenth below 40 heave;side;puller 80 50 90 60 0;ground 90 1 50;");
        is("23 without a PULL", x.image(1), 1);
        x.begin(1);
        x.go(5);
        is("23 with one", x.image(0), 1);
        int[] kept = all(x);
        x.go(50);
        x.sheet(2, 0, 3);
        Due.match(x, TWO);
        is("24 restored", x.restore(0), 1);
        same("24", kept, all(x));
        is("24 SHEETS stay", x.count(0), 1);
        x.go(3);
        is("24 again", x.restore(0), 1);
        same("24 again", kept, all(x));
        is("24 no PULL", x.restore(1), 1);
        is("24 no PULL then", x.pull(0), STATE);
        is("24 no kept TENTHS", x.count(7), 0);
        x.begin(0);
        is("24 GRIPS", x.pull(3), 90);
        is("24 STATE of one, not of both", new HeelsIn().restore(0), STATE);
        Due.feed(x, "side");
        x.restore(0);
        is("24 the tape stays", x.count(5), 4);
        imageOfChangedEnds();
        imageOfOneThatHasWon();
    }

    private static void imageOfChangedEnds() {
        HeelsIn x = Due.of("side;puller 80 100 200 60 0;side;puller 80 100 200 60 0;ground 90 20 50;");
        Due.lay(x, 0, 0, 1, 0, 1, 0, 1, 0);
        x.begin(1);
        x.told(0, 0, 2);
        x.image(1);
        x.begin(0);
        x.told(0, 0, 3);
        is("24 GRIP of END 0 ahead", x.pull(3), 30);
        x.restore(1);
        is("24 GRIP of END 0", x.pull(3), 90);
        is("24 GRIP of END 1", x.pull(4), 50);
        x.told(0, 0, 1);
        is("24 ENDS are changed", x.pull(4), 30);
        is("24 FORCE by END 1", x.later(0, 2), 100);
        is("24 FORCE by END 0", x.later(0, 3), 90);
    }

    private static void imageOfOneThatHasWon() {
        HeelsIn x = Due.of("side;puller 80 200 300 60 0;side;puller 80 40 80 9 1;ground 100 0 3;");
        x.begin(0);
        x.go(2);
        x.image(0);
        x.go(9);
        x.image(1);
        is("23 won", x.pull(2), 0);
        x.restore(0);
        is("24 not won", x.pull(2), NONE);
        is("24 goes on", x.go(9), 1);
        x.begin(0);
        x.restore(1);
        is("24 won", x.pull(2), 0);
        is("24 nothing goes on", x.go(9), 0);
        is("24 kept", x.later(2, 4), 1);
    }

    private static int[] all(HeelsIn x) {
        int[] answers = new int[40];
        int at = 0;
        for (int what = 0; what < 7; what++) {
            answers[at++] = x.pull(what);
        }
        for (int what = 0; what < 5; what++) {
            answers[at++] = x.later(0, what);
            answers[at++] = x.later(4, what);
            answers[at++] = x.puller(0, 0, what);
        }
        for (int what = 0; what < 3; what++) {
            answers[at++] = x.doing(0, 0, what);
            answers[at++] = x.doing(1, 0, what);
        }
        for (int what = 1; what < 8; what++) {
            answers[at++] = x.count(what);
        }
        answers[at] = x.read(0);
        return answers;
    }

    private static void same(String call, int[] a, int[] b) {
        for (int k = 0; k < a.length; k++) {
            is(call + " answer " + k, b[k], a[k]);
        }
    }

    /** A pull in which puller 1 of side 1 (HOLD 51, BURST 92, BREATH 7, LAG 1) comes to be of a kind. */
    private static HeelsIn of(int kind) {
        HeelsIn x = Due.of("side;puller 80 50 90 60 0;side;puller 80 50 90 60 0;puller 80 51 92 7 1;");
        int[][] tells = {{}, {0, 0}, {1, 0}, {2, 0}, {3, 0}, {1, 1, 1, 0}};
        x.begin(0);
        x.sheet(0, 0, 2);
        for (int order : tells[kind]) {
            x.set(0, 1, order);
            x.told(0, 0, 1);
        }
        return x;
    }

    private static void kind() {
        HeelsIn x = new HeelsIn();
        is("25 BAD", x.kind(0, 0), BAD);
        Due.match(x, TWO);
        is("25 no PULL", x.kind(0, 0), STATE);
        x.begin(0);
        is("25 no TENTH", x.kind(0, 0), STATE);
        is("25 puller 1", x.kind(0, 1), BAD);
        is("25 side 2", x.kind(2, 0), BAD);
        is("25 side -1", x.kind(-1, 0), BAD);
        for (int kind = 1; kind <= 5; kind++) {
            is("25 kind " + kind, of(kind).kind(1, 1), kind);
        }
    }

    private static void as() {
        HeelsIn x = new HeelsIn();
        is("26 BAD", x.as(0, 0, 0), BAD);
        Due.match(x, TWO);
        is("26 no PULL", x.as(0, 0, 0), STATE);
        x.begin(0);
        is("26 no TENTH", x.as(0, 0, 5), STATE);
        is("26 kind 6", x.as(0, 0, 6), BAD);
        is("26 kind -1", x.as(0, 0, -1), BAD);
        is("26 puller 1", x.as(0, 1, 0), BAD);
        is("26 side 2", x.as(2, 0, 0), BAD);
        int[] forces = {0, 51, 92, 25, 25, 12};
        int[] isOne = {0, 0b000011, 0b000101, 0b001101, 0b010011, 0b100001};
        for (int kind = 1; kind <= 5; kind++) {
            HeelsIn y = of(kind);
            for (int as = 0; as <= 5; as++) {
                boolean one = (isOne[kind] >> as & 1) == 1;
                is("26 " + kind + " as " + as, y.as(1, 1, as), one ? forces[kind] : KIND);
                is("26 status of " + kind + " as " + as, y.status(), one ? 0 : 3);
            }
        }
    }

    private static void asked(int kind, int what, int due, int... trace) {
        HeelsIn x = of(kind);
        is("27 kind " + kind, x.kind(1, 1), kind);
        x.ask(1, 1, 1 - what);
        is("27 ask " + what + " of " + kind, x.ask(1, 1, what), due);
        for (int i = 0; i < 16; i++) {
            is("28 trace " + i + " of " + what + " of " + kind, x.trace(i), i < trace.length ? trace[i] : NONE);
        }
    }

    private static void ask() {
        HeelsIn x = new HeelsIn();
        is("27 BAD", x.ask(0, 0, 0), BAD);
        Due.match(x, TWO);
        is("27 no PULL", x.ask(0, 0, 0), STATE);
        x.begin(0);
        is("27 no TENTH", x.ask(0, 0, 1), STATE);
        is("27 what 2", x.ask(0, 0, 2), BAD);
        is("27 what -1", x.ask(0, 0, -1), BAD);
        is("27 puller 1", x.ask(1, 1, 0), BAD);
        // The doing is that of a lag of 1: what is told at TENTH 0 is done at TENTH 1; the breath is that behind it.
        asked(1, 0, 51 + 5, 11, 10);
        asked(1, 1, 1, 20);
        asked(2, 0, 92 - 11, 13, 10, 21, 20);
        asked(2, 1, 11, 21, 20);
        asked(3, 0, 25 - 111, 13, 10, 22, 21, 20);
        asked(3, 1, 111, 22, 21, 20);
        asked(4, 0, 2 * (25 + 7), 12, 11, 10);
        asked(4, 1, 1 - 64, 24, 20, 12, 11, 10);
        asked(5, 0, -12, 14, 10);
        asked(5, 1, 1 - 12, 23, 20, 14, 10);
    }

    private static void trace() {
        HeelsIn x = of(4);
        x.ask(1, 1, 1);
        is("28 first", x.trace(0), 24);
        is("28 last", x.trace(4), 10);
        is("28 beyond", x.trace(5), NONE);
        is("28 16", x.trace(16), NONE);
        is("28 high", x.trace(HIGH), NONE);
        is("28 -1", x.trace(-1), NONE);
        is("28 low", x.trace(LOW), NONE);
        is("27 BAD", x.ask(1, 2, 0), BAD);
        is("28 stays where refused", x.trace(0), 24);
        x.begin(0);
        is("27 STATE", x.ask(1, 1, 0), STATE);
        is("28 stays where refused, too", x.trace(4), 10);
    }

    private static void count() {
        HeelsIn x = new HeelsIn();
        is("29 8", x.count(8), BAD);
        is("29 -1", x.count(-1), BAD);
        is("29 high", x.count(HIGH), BAD);
        for (int k = 0; k < 8; k++) {
            x.sheet(k, 0, 0);
            is("29 sheets", x.count(0), k + 1);
        }
        String one = "puller 80 1 1 1 0;";
        String rule = "when tenth above 1 hold;";
        Due.match(x, "side;" + one.repeat(3) + rule.repeat(2) + "side;" + one.repeat(5) + rule + "ground 1 1 37;");
        int[] due = {8, 3, 5, 2, 1, 0, 37, 0};
        for (int what = 0; what < 8; what++) {
            is("29 count " + what, x.count(what), due[what]);
        }
        x.feed(0, 3);
        is("29 bytes", x.count(5), 3);
        x.begin(0);
        x.go(7);
        is("29 kept", x.count(7), 7);
        x.go(60);
        is("29 kept at most", x.count(7), 60);
    }

    private static void status() {
        HeelsIn x = of(1);
        is("30 none", x.status(), 0);
        x.set(0, 9, 0);
        is("30 PLACE", x.status(), 2);
        x.set(8, 0, 0);
        is("30 BAD stays", x.status(), 2);
        x.told(1, 0, 21);
        is("30 BAD stays, too", x.status(), 2);
        x.as(1, 1, 2);
        is("30 KIND", x.status(), 3);
        x.go(1);
        x.ask(1, 1, 0);
        x.kind(1, 1);
        x.read(0);
        x.image(0);
        x.restore(0);
        x.begin(0);
        x.match();
        is("30 other calls", x.status(), 3);
        x.as(1, 1, 1);
        is("30 STATE stays", x.status(), 3);
        x.sheet(1, 0, -1);
        is("30 SIZE", x.status(), 4);
        x.sheet(1, 1, 3);
        is("30 none then", x.status(), 0);
        x.copy(0, 0, 1, 0, 0);
        is("30 STORE", x.status(), 5);
        x.copy(1, 0, 1, 1, 2);
        is("30 copy", x.status(), 0);
        x.left(3, 0, 1, 1, 2, 0);
        is("30 NULL", x.status(), 1);
        x.left(1, 0, 1, 1, 2, 0);
        is("30 left", x.status(), 0);
        x.drop(3);
        is("30 NULL of drop", x.status(), 1);
        x.drop(1);
        is("30 drop", x.status(), 0);
    }
}
