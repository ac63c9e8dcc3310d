import java.util.ArrayList;
import java.util.List;

/** Section 1, TEXTS and FAULTS, and Promises 6 to 9: each sentence with an edge, just inside and just outside. */
public final class EdgeTextsTest {
    private static final int BAD = HeelsIn.BAD, STATE = HeelsIn.STATE, FULL = HeelsIn.FULL;
    private static final String PULLER = "puller 80 50 90 5 0;";
    private static final String RULE = "when tenth above 1 hold;";
    private static final String TWO = "side;" + PULLER + "side;" + PULLER;
    // Every TOKEN that there is, one by one; what is left of it when it ends there is told by COMPLETE.
    private static final String[] TOKENS = {
        "side", ";", "puller", "80", "50", "90", "5", "0", ";", "puller", "81", "51", "91", "6", "1", ";", "when", "thread", "below",
        "-3", "heave", ";", "when", "breath", "above", "4", "counter", ";", "side", ";", "puller", "70", "40", "80", "9", "2", ";",
        "when", "theirs", "below", "12", "rest", ";", "when", "tenth", "above", "7", "hold", ";", "ground", "90", "1", "20", ";",
    };
    private static final String COMPLETE = " 37 43 49 54 ";

    private EdgeTextsTest() {
    }

    public static void main(String[] args) {
        tapeOf700();
        lowestBytes();
        tapeIsEmptyThen();
        everyByteBetween();
        lettersOfNames();
        figuresOfNumbers();
        everyLetterOfNames();
        threeFiguresAtMost();
        minusAtOnce();
        blanks();
        tokensThatEnd();
        tokensThatAreNone();
        tokensThatAreBeside();
        numbersOfPullers();
        numbersOfRules();
        numbersOfGround();
        words();
        eightPullers();
        sixRules();
        atLeastOne();
        groundOrNone();
        firstTokenThatHasOne();
        leastOfOneToken();
        inPlaceOfTheOneBefore();
        allThatStays();
        latestFault();
        asTold();
        Due.end("EdgeTextsTest");
    }

    private static void is(String call, long got, long want) {
        Due.is(call, got, want);
    }

    private static void good(String text, int pullers) {
        HeelsIn x = new HeelsIn();
        is("7 match() of '" + text + "'", Due.match(x, text), pullers);
        is("8 no FAULT of '" + text + "'", x.fault(), 0);
    }

    private static void faulty(String text, int place, int fault) {
        HeelsIn x = new HeelsIn();
        is("7 match() of '" + text + "'", Due.match(x, text), -1000100 - place);
        is("8 fault() of '" + text + "'", x.fault(), fault);
    }

    /** "THE TAPE has at most 700 bytes .. FULL: none comes." */
    private static void tapeOf700() {
        for (int n = 1; n <= 8; n++) {
            HeelsIn x = new HeelsIn();
            Due.feed(x, " ".repeat(700 - n));
            is("6 up to 700 by " + n, x.feed(' ', n), 700);
            is("29 the full tape", x.count(5), 700);
            is("6 one beyond", x.feed(' ', 1), FULL);
            HeelsIn y = new HeelsIn();
            Due.feed(y, " ".repeat(701 - n));
            is("6 beyond 700 by " + n, y.feed(' ', n), FULL);
            is("6 none came", y.count(5), 701 - n);
        }
        HeelsIn x = new HeelsIn();
        String text = TWO + "ground 90 1 20";
        Due.feed(x, " ".repeat(699 - text.length()) + text);
        is("6 two are beyond", x.feed(';', 2), FULL);
        is("6 one is not", x.feed(';', 1), 700);
        is("7 all 700 are read", x.match(), 2);
        is("6 from the first on again", x.feed(';', 1), 1);
        good("side;" + PULLER + "side;" + " ".repeat(650) + PULLER, 2);
    }

    /** "The lowest n bytes of w (1 to 8), the highest of them first". */
    private static void lowestBytes() {
        for (int n = 1; n <= 8; n++) {
            HeelsIn x = new HeelsIn();
            String text = TWO + " ".repeat(7);
            int had = 0;
            for (int at = 0; at + n <= text.length(); at += n) {
                long above = n < 8 ? -1L << 8 * n : 0;
                had += n;
                is("6 by " + n, x.feed(Due.word(text, at, n) | above, n), had);
            }
            is("7 fed by " + n, x.match(), 2);
        }
        HeelsIn x = new HeelsIn();
        x.feed(-1L, 8);
        is("6 eight of 255", x.match(), -1000100);
        x.feed(Due.word(" side  ;", 0, 8) & 0x00ffffffffffffffL, 8);
        is("6 the highest is 0", x.match(), -1000100);
        x.feed(Due.word("sidexxxx", 0, 8), 4);
        is("6 four of the lowest", x.match(), -1000100);
        is("6 n 0", x.feed(' ', 0), BAD);
        is("6 n 9", x.feed(' ', 9), BAD);
    }

    /** "The tape, empty then, is read". */
    private static void tapeIsEmptyThen() {
        HeelsIn x = new HeelsIn();
        Due.feed(x, TWO);
        is("29 as many as were fed", x.count(5), TWO.length());
        is("7 good", x.match(), 2);
        is("29 empty", x.count(5), 0);
        is("7 of none", x.match(), -1000100);
        is("29 empty still", x.count(5), 0);
        Due.match(x, "side;puller 80");
        is("29 empty behind a FAULT", x.count(5), 0);
        Due.feed(x, " 50 90 5 0;side;" + PULLER);
        is("7 nothing of the one before", x.match(), -1000101);
        is("7 good again", Due.match(x, TWO), 2);
    }

    /** "bytes 32 and 10 .. between": of 256 these two alone are nothing. */
    private static void everyByteBetween() {
        for (int b = 0; b < 256; b++) {
            HeelsIn x = new HeelsIn();
            Due.feed(x, "side;");
            x.feed(b, 1);
            Due.feed(x, PULLER + "side;" + PULLER);
            is("7 byte " + b + " between", x.match(), b == 32 || b == 10 ? 2 : -1000105);
            is("8 byte " + b + " between", x.fault(), b == 32 || b == 10 ? 0 : 1);
            HeelsIn y = new HeelsIn();
            Due.feed(y, TWO);
            y.feed(b, 1);
            is("7 byte " + b + " behind", y.match(), b == 32 || b == 10 ? 2 : -1000100 - TWO.length());
            HeelsIn z = new HeelsIn();
            z.feed(b, 1);
            Due.feed(z, TWO);
            is("7 byte " + b + " ahead", z.match(), b == 32 || b == 10 ? 2 : -1000100);
        }
    }

    /** "NAMES (letters a to z)": byte by byte in place of a letter, and behind a NAME. */
    private static void lettersOfNames() {
        for (int b = 0; b < 256; b++) {
            HeelsIn x = new HeelsIn();
            Due.feed(x, "side");
            x.feed(b, 1);
            Due.feed(x, ";" + PULLER + "side;" + PULLER);
            boolean letter = b >= 'a' && b <= 'z';
            boolean blank = b == 32 || b == 10;
            is("7 byte " + b + " behind a NAME", x.match(), blank ? 2 : letter ? -1000100 : b == ';' ? -1000105 : -1000104);
            HeelsIn y = new HeelsIn();
            Due.feed(y, "si");
            y.feed(b, 1);
            Due.feed(y, "e;" + PULLER + "side;" + PULLER);
            is("7 byte " + b + " in a NAME", y.match(), b == 'd' ? 2 : -1000100);
        }
        faulty("aside;" + TWO, 0, 1);
        faulty("zside;" + TWO, 0, 1);
        faulty("sida;", 0, 1);
        faulty("sidz;", 0, 1);
        faulty("sid;", 0, 1);
        faulty("s;", 0, 1);
        faulty("SIDE;", 0, 1);
        faulty("side;pullers 80", 5, 1);
        faulty("side;pulle 80", 5, 1);
    }

    /** A NAME with one letter that is another one, with one less, with one more is none of these: at its first byte. */
    private static void everyLetterOfNames() {
        for (int k = 0; k < TOKENS.length; k++) {
            String name = TOKENS[k];
            for (int at = 0; at < name.length() && Character.isLetter(name.charAt(0)); at++) {
                faulty(with(k, name.substring(0, at) + "q" + name.substring(at + 1)), placeOf(k), 1);
                faulty(with(k, name.substring(0, at) + "q" + name.substring(at)), placeOf(k), 1);
                faulty(with(k, name.substring(0, at) + name.substring(at + 1)), placeOf(k), 1);
            }
        }
    }

    /** "NUMBERS (.. figures ..)": byte by byte behind one. */
    private static void figuresOfNumbers() {
        for (int b = 0; b < 256; b++) {
            HeelsIn x = new HeelsIn();
            Due.feed(x, "side;puller 4");
            x.feed(b, 1);
            Due.feed(x, " 50 90 5 0;side;" + PULLER);
            boolean figure = b >= '0' && b <= '9';
            // 4 alone is too little; where a blank, a letter or so ends it, the FAULT is its own.
            is("7 byte " + b + " behind a figure", x.match(), figure ? 2 : -1000112);
            is("8 byte " + b + " behind a figure", x.fault(), figure ? 0 : 2);
            HeelsIn y = new HeelsIn();
            Due.feed(y, "side;puller 45");
            y.feed(b, 1);
            Due.feed(y, "50 90 5 0;side;" + PULLER);
            boolean blank = b == 32 || b == 10;
            int due = blank ? 2 : figure ? -1000112 : -1000114;
            is("7 byte " + b + " behind two figures", y.match(), due);
            is("8 byte " + b + " behind two figures", y.fault(), blank ? 0 : b == '-' ? 2 : 1);
        }
    }

    /** "figures, 3 at most": a NUMBER of four is none, at its first byte, wherever it stands. */
    private static void threeFiguresAtMost() {
        for (int k = 0; k < TOKENS.length; k++) {
            if (!isNumber(TOKENS[k])) {
                continue;
            }
            boolean minus = TOKENS[k].startsWith("-");
            String figures = minus ? TOKENS[k].substring(1) : TOKENS[k];
            String sign = minus ? "-" : "";
            String zeroes = "0".repeat(3 - figures.length());
            good(with(k, sign + zeroes + figures), 3);
            faulty(with(k, sign + "0" + zeroes + figures), placeOf(k), 1);
            faulty(with(k, sign + "00" + zeroes + figures), placeOf(k), 1);
            faulty(with(k, sign + "9999"), placeOf(k), 1);
            faulty(with(k, "-1234"), placeOf(k), 1);
            faulty(with(k, "0".repeat(300)), placeOf(k), 1);
            faulty(with(k, "4294967376"), placeOf(k), 1);
        }
    }

    private static boolean isNumber(String token) {
        return token.charAt(0) == '-' || Character.isDigit(token.charAt(0));
    }

    /** All TOKENS with blanks between, one of them another one. */
    private static String with(int k, String token) {
        List<String> tokens = new ArrayList<>(List.of(TOKENS));
        tokens.set(k, token);
        return String.join(" ", tokens);
    }

    private static int placeOf(int k) {
        int place = 0;
        for (int t = 0; t < k; t++) {
            place += TOKENS[t].length() + 1;
        }
        return place;
    }

    /** "perhaps -, at once figures". */
    private static void minusAtOnce() {
        good(TWO.replace("5 0;", "5 -0;"), 2);
        good(TWO.replace("5 0;", "5-0;"), 2);
        good(TWO.replace("5 0;", "5 -000;"), 2);
        faulty("side;puller 80 50 90 5 -0000;", 23, 1);
        faulty("side;puller 80 50 90 5 - 0;", 23, 1);
        faulty("side;puller 80 50 90 5 -\n0;", 23, 1);
        faulty("side;puller 80 50 90 5 --0;", 23, 1);
        faulty("side;puller 80 50 90 5 +0;", 23, 1);
        faulty("side;puller 80 50 90 5 -;", 23, 1);
        faulty("side;puller 80 50 90 5 -a;", 23, 1);
        faulty("side;puller 80 50 90 5 -", 23, 1);
        faulty("side;puller 80 50 90 5 0-;", 24, 1);
        faulty("side;puller 80 50 90 5 0-0;", 24, 1);
        faulty("-side;", 0, 1);
        faulty("-", 0, 1);
    }

    /** "ahead of, between, behind these, as many as wanted (none is needed where one ends without)". */
    private static void blanks() {
        good(String.join(" ", TOKENS), 3);
        good(String.join("\n", TOKENS), 3);
        good("\n \n" + String.join(" \n\n  ", TOKENS) + "  \n", 3);
        StringBuilder close = new StringBuilder();
        for (int k = 0; k < TOKENS.length; k++) {
            boolean twoNames = k > 0 && Character.isLetter(TOKENS[k - 1].charAt(0)) && Character.isLetter(TOKENS[k].charAt(0));
            boolean twoNumbers = k > 0 && isNumber(TOKENS[k - 1]) && isNumber(TOKENS[k]);
            close.append(twoNames || twoNumbers ? " " : "").append(TOKENS[k]);
        }
        good(close.toString(), 3);
        faulty("sideside", 0, 1);
        faulty("side;puller 8050 90 5 0;", 12, 1);
        faulty("si de;", 0, 1);
        faulty("side;puller 8 0 50 90 5 0;", 12, 2);
        faulty("side;" + PULLER + "side;" + PULLER + "whententh above 1 hold;", TWO.length(), 1);
    }

    /** "the end: how many bytes there are": behind each TOKEN, blanks behind it counted, too. */
    private static void tokensThatEnd() {
        for (int k = 0; k <= TOKENS.length; k++) {
            String text = String.join(" ", List.of(TOKENS).subList(0, k));
            for (String behind : new String[] {"", " ", "\n\n", "     "}) {
                String all = text + behind;
                if (COMPLETE.contains(" " + k + " ")) {
                    good(all, 3);
                } else {
                    faulty(all, all.length(), 1);
                }
            }
        }
        faulty("", 0, 1);
        faulty(" ".repeat(699), 699, 1);
        faulty(" ".repeat(700), 700, 1);
        faulty("side;" + " ".repeat(694) + "\n", 700, 1);
    }

    /** "1 it cannot stand there, or is none": in place of each TOKEN, at its first byte. */
    private static void tokensThatAreNone() {
        for (int k = 0; k < TOKENS.length; k++) {
            for (String none : new String[] {"?", "-", "x", "Side", "1234", "\t", "\u00e4", "\0", "sides", "whens", ",", ":", "0000"}) {
                faulty(with(k, none), placeOf(k), 1);
            }
            for (String other : new String[] {"side", "puller", "when", "ground", "breath", "theirs", "thread", "tenth", "below", "above",
                "hold", "heave", "counter", "rest", "spent", ";"}) {
                if (!mayStand(k, other)) {
                    faulty(with(k, other), placeOf(k), 1);
                }
            }
            if (!isNumber(TOKENS[k])) {
                faulty(with(k, "80"), placeOf(k), 1);
                faulty(with(k, "-3"), placeOf(k), 1);
            }
        }
    }

    private static boolean mayStand(int k, String token) {
        String there = TOKENS[k];
        if (there.equals(token)) {
            return true;
        }
        for (String alike : new String[] {" breath theirs thread tenth ", " below above ", " hold heave counter rest "}) {
            if (alike.contains(" " + there + " ")) {
                return alike.contains(" " + token + " ");
            }
        }
        // Behind a SIDE's only, or last, PULLER any of these begins well; what follows it may not.
        boolean second = k > 28;
        boolean behindPuller = k > 1 && TOKENS[k - 1].equals(";") && TOKENS[Math.max(0, k - 2)].matches("[0-5]");
        boolean behindRule = k > 1 && TOKENS[k - 1].equals(";") && !behindPuller && k != 30 && k != 2;
        boolean rule = token.equals("when");
        boolean next = second ? token.equals("ground") : token.equals("side");
        return behindPuller && (rule || next || token.equals("puller")) || behindRule && (rule || next);
    }

    /** A TOKEN more, between any two. */
    private static void tokensThatAreBeside() {
        for (int k = 0; k <= TOKENS.length; k++) {
            List<String> tokens = new ArrayList<>(List.of(TOKENS));
            int place = placeOf(k);
            for (String more : new String[] {"x", "?", "- ", "hold hold", "12345"}) {
                tokens.add(k, more);
                boolean well = more.startsWith("hold") && k < TOKENS.length && TOKENS[k].matches("hold|heave|counter|rest");
                faulty(String.join(" ", tokens), well ? place + 5 : place, 1);
                tokens.remove(k);
            }
            if (k < TOKENS.length && TOKENS[k].equals(";")) {
                tokens.add(k, ";");
                faulty(String.join(" ", tokens), place + 2, 1);
            }
        }
    }

    /** One NUMBER of the text put in place of {}: the bounds, and what is beyond them. */
    private static void bounds(String name, String text, int least, int most) {
        int place = text.indexOf("{}");
        for (int n : new int[] {least, least + 1, most - 1, most}) {
            HeelsIn x = new HeelsIn();
            is("7 " + name + " " + n, Due.match(x, text.replace("{}", "" + n)) > 0 ? 1 : 0, 1);
        }
        for (int n : new int[] {least - 1, most + 1, -999, 999, -1}) {
            if ((n < least || n > most) && n < 1000) {
                faulty(text.replace("{}", "" + n), place, 2);
            }
        }
        faulty(text.replace("{}", "1000"), place, 1);
        faulty(text.replace("{}", "-1000"), place, 1);
    }

    /** "40 to 150; 1 to 200; 1 to 400; 1 to 60; 0 to 5": of the first PULLER and the last, of both SIDES. */
    private static void numbersOfPullers() {
        String[] names = {"WEIGHT", "HOLD", "BURST", "BREATH", "LAG"};
        int[] least = {40, 1, 1, 1, 0};
        int[] most = {150, 200, 400, 60, 5};
        String seven = PULLER.repeat(7);
        for (int what = 0; what < 5; what++) {
            String[] numbers = {"80", "50", "90", "5", "0"};
            numbers[what] = "{}";
            String open = "puller " + String.join(" ", numbers) + ";";
            bounds(names[what] + " of 0, 0", "side;" + open + "side;" + PULLER, least[what], most[what]);
            bounds(names[what] + " of 1, 0", "side;" + PULLER + "side;" + open, least[what], most[what]);
            bounds(names[what] + " of 0, 7", "side;" + seven + open + "side;" + PULLER, least[what], most[what]);
            bounds(names[what] + " of 1, 7", "side;" + PULLER + "side;" + seven + open, least[what], most[what]);
        }
    }

    /** "-99 to 999". */
    private static void numbersOfRules() {
        String five = RULE.repeat(5);
        for (String what : new String[] {"breath", "theirs", "thread", "tenth"}) {
            for (String than : new String[] {"below", "above"}) {
                String open = "when " + what + " " + than + " {} rest;";
                bounds("NUMBER", "side;" + PULLER + open + "side;" + PULLER, -99, 999);
                bounds("NUMBER of the sixth", "side;" + PULLER + five + open + "side;" + PULLER, -99, 999);
                bounds("NUMBER of SIDE 1", TWO + open, -99, 999);
                bounds("NUMBER of the sixth of SIDE 1", TWO + five + open, -99, 999);
            }
        }
    }

    /** "1 to 100 of 100; 0 to 20; FAR 1 to 99". */
    private static void numbersOfGround() {
        bounds("GRIP", TWO + "ground {} 1 20;", 1, 100);
        bounds("WEAR", TWO + "ground 90 {} 20;", 0, 20);
        bounds("FAR", TWO + "ground 90 1 {};", 1, 99);
    }

    /** WHAT, below or above, DO: these words alone. */
    private static void words() {
        String[] whats = {"breath", "theirs", "thread", "tenth"};
        String[] orders = {"hold", "heave", "counter", "rest"};
        for (String what : whats) {
            for (String than : new String[] {"below", "above"}) {
                for (String order : orders) {
                    good(TWO + "when " + what + " " + than + " 1 " + order + ";", 2);
                }
            }
        }
        int at = TWO.length();
        for (String wrong : new String[] {"hold", "below", "above", "breaths", "breat", "spent", "puller", "side", "ground", "when", "lag"}) {
            faulty(TWO + "when " + wrong + " above 1 hold;", at + 5, 1);
        }
        for (String wrong : new String[] {"hold", "breath", "belo", "belows", "when", "at"}) {
            faulty(TWO + "when thread " + wrong + " 1 hold;", at + 12, 1);
        }
        for (String wrong : new String[] {"spent", "below", "tenth", "holds", "hol", "side", "puller"}) {
            faulty(TWO + "when thread above 1 " + wrong + ";", at + 20, 1);
        }
    }

    /** "8 for a SIDE at most .. 3 a puller .. more than there is room for (its word)". */
    private static void eightPullers() {
        for (int n = 1; n <= 8; n++) {
            good("side;" + PULLER.repeat(n) + "side;" + PULLER, n + 1);
            good("side;" + PULLER + "side;" + PULLER.repeat(n), n + 1);
            good("side;" + PULLER.repeat(n) + "side;" + PULLER.repeat(9 - n), 9);
        }
        good("side;" + PULLER.repeat(8) + "side;" + PULLER.repeat(8), 16);
        for (String ninth : new String[] {PULLER, "puller", "puller;", "puller ?", "puller 999 1 1 1 1;", "puller 1234"}) {
            faulty("side;" + PULLER.repeat(8) + ninth, 5 + 8 * PULLER.length(), 3);
            faulty("side;" + PULLER + "side;" + PULLER.repeat(8) + ninth, 10 + 9 * PULLER.length(), 3);
            faulty("side;" + PULLER.repeat(8) + " \n" + ninth, 7 + 8 * PULLER.length(), 3);
        }
        faulty("side;" + PULLER.repeat(8) + "pullers", 5 + 8 * PULLER.length(), 1);
        faulty("side;" + PULLER.repeat(8) + RULE + PULLER, 5 + 8 * PULLER.length() + RULE.length(), 1);
        faulty("side;" + PULLER + RULE + PULLER, 5 + PULLER.length() + RULE.length(), 1);
    }

    /** "6 for a SIDE at most .. a rule more than there is room for (its word)". */
    private static void sixRules() {
        for (int n = 0; n <= 6; n++) {
            HeelsIn x = new HeelsIn();
            is("7 rules " + n, Due.match(x, "side;" + PULLER + RULE.repeat(n) + "side;" + PULLER + RULE.repeat(6 - n)), 2);
            is("29 rules of SIDE 0", x.count(3), n);
            is("29 rules of SIDE 1", x.count(4), 6 - n);
        }
        good("side;" + PULLER + RULE.repeat(6) + "side;" + PULLER + RULE.repeat(6), 2);
        int first = 5 + PULLER.length() + 6 * RULE.length();
        int second = TWO.length() + 6 * RULE.length();
        for (String seventh : new String[] {RULE, "when", "when;", "when ?", "when lag", "when tenth above 1234"}) {
            faulty("side;" + PULLER + RULE.repeat(6) + seventh, first, 3);
            faulty(TWO + RULE.repeat(6) + seventh, second, 3);
        }
        faulty("side;" + PULLER + RULE.repeat(6) + "whens", first, 1);
        faulty("side;" + PULLER + RULE.repeat(6) + "ground", first, 1);
        faulty(TWO + RULE.repeat(6) + "side", second, 1);
        good("side;" + PULLER + RULE.repeat(6) + "side;" + PULLER + RULE.repeat(6) + "ground 1 0 1;", 2);
    }

    /** "side side", "puller { puller }": neither less nor more. */
    private static void atLeastOne() {
        faulty("side;side;" + PULLER, 5, 1);
        faulty("side;" + PULLER + "side;", 10 + PULLER.length(), 1);
        faulty("side;" + RULE + "side;" + PULLER, 5, 1);
        faulty("side;" + PULLER + "side;" + RULE, 10 + PULLER.length(), 1);
        faulty("side;" + PULLER, 5 + PULLER.length(), 1);
        faulty("side;" + PULLER + "ground 90 1 20;", 5 + PULLER.length(), 1);
        faulty(TWO + "side;" + PULLER, TWO.length(), 1);
        faulty(PULLER + "side;" + PULLER, 0, 1);
        faulty("ground 90 1 20;" + TWO, 0, 1);
    }

    /** "[ ground ] .. none: 100, 0, 20": the one before is not kept. */
    private static void groundOrNone() {
        HeelsIn x = Due.of(TWO + "when tenth above -1 heave;ground 7 3 9;");
        is("29 FAR", x.count(6), 9);
        x.begin(0);
        is("13 GRIP", x.pull(3), 7);
        x.go(1);
        is("13 WEAR", x.pull(4), 4);
        is("7 none", Due.match(x, TWO + "when tenth above -1 heave;"), 2);
        is("29 FAR of none", x.count(6), 20);
        x.begin(0);
        is("13 GRIP of none", x.pull(3), 100);
        is("13 GRIP of none, the other", x.pull(4), 100);
        x.go(1);
        is("13 WEAR of none", x.pull(4), 100);
        faulty(TWO + "ground 90 1 20;ground 90 1 20;", TWO.length() + 15, 1);
        faulty(TWO + "ground 90 1;", TWO.length() + 11, 1);
        faulty(TWO + "ground 90 1 20 1;", TWO.length() + 15, 1);
        faulty(TWO + "ground 90 1 20", TWO.length() + 14, 1);
        faulty(TWO + "ground 90 1 20;" + RULE, TWO.length() + 15, 1);
        faulty(TWO + "ground 90 1 20;" + PULLER, TWO.length() + 15, 1);
        faulty(TWO + "ground 90 1 20;;", TWO.length() + 15, 1);
    }

    /** "the first TOKEN that has one (its first byte)": of two the first, whatever its number. */
    private static void firstTokenThatHasOne() {
        faulty("side;puller 39 201 401 61 6;", 12, 2);
        faulty("side;puller 40 201 401 61 6;", 15, 2);
        faulty("side;puller 39 ? 401 61 6;", 12, 2);
        faulty("side;puller ? 201 401 61 6;", 12, 1);
        faulty("side;" + PULLER.repeat(9) + "?", 5 + 8 * PULLER.length(), 3);
        faulty("side;puller 39 1 1 1 1;" + PULLER.repeat(8), 12, 2);
        faulty("side;" + PULLER.repeat(8) + "? " + PULLER, 5 + 8 * PULLER.length(), 1);
        faulty(TWO + "when thread above 1000 spent", TWO.length() + 18, 1);
        faulty(TWO + "when thread above -100 spent", TWO.length() + 18, 2);
        faulty(TWO + "when thread above 1 spent 1000", TWO.length() + 20, 1);
        faulty(TWO + "ground 0 21 0", TWO.length() + 7, 2);
        faulty(TWO + "ground 1 21 0", TWO.length() + 9, 2);
        faulty(TWO + "ground 1 20 0", TWO.length() + 12, 2);
        faulty(TWO + "ground 1 20 1", TWO.length() + 13, 1);
        faulty("side;puller 80 50 90 5 0 side;puller 1", 25, 1);
        faulty("side;puller 80 50 90 5;side;puller 1", 22, 1);
    }

    /** "of one TOKEN the least": one that cannot stand there, and is not as told, too. */
    private static void leastOfOneToken() {
        faulty("999;" + TWO, 0, 1);
        faulty("side 999;", 5, 1);
        faulty("side;999", 5, 1);
        faulty("side;puller 80 50 90 5 0 999;", 25, 1);
        faulty("side;puller 80 50 90 5 9999;", 23, 1);
        faulty(TWO + "when 999 above 1 hold;", TWO.length() + 5, 1);
        faulty(TWO + "999", TWO.length(), 1);
        faulty("side;" + PULLER.repeat(8) + RULE.repeat(6) + PULLER, 5 + 8 * PULLER.length() + 6 * RULE.length(), 1);
        faulty("side;" + PULLER.repeat(8) + "side;" + PULLER.repeat(8) + RULE + "puller", 10 + 16 * PULLER.length() + RULE.length(), 1);
    }

    /** "A MATCH that is read stands in place of the one before (none at first): no PULL; IMAGES and SHEETS stay." */
    private static void inPlaceOfTheOneBefore() {
        HeelsIn x = new HeelsIn();
        States.full(x);
        int tenths = x.pull(1);
        x.image(1);
        x.match();
        is("7 read", Due.match(x, States.SECOND), 2);
        is("13 no PULL", x.pull(0), STATE);
        is("11 no PULL", x.go(1), STATE);
        is("22 no PULL", x.read(0), STATE);
        is("29 no kept TENTHS", x.count(7), 0);
        is("29 PULLERS", x.count(1), 1);
        is("29 PULLERS of SIDE 1", x.count(2), 1);
        is("29 rules", x.count(3), 1);
        is("29 rules of SIDE 1", x.count(4), 0);
        is("29 FAR", x.count(6), 40);
        is("9 PULLER 1", x.puller(0, 1, 0), BAD);
        is("9 WEIGHT", x.puller(1, 0, 0), 41);
        is("29 SHEETS", x.count(0), 5);
        is("3 an ITEM", x.copy(1, 0, 1, 4, 1), 1);
        x.begin(0);
        is("13 GRIP as told", x.pull(3), 80);
        is("13 GRIP of END 1 as told", x.pull(4), 80);
        is("24 IMAGE 1 stays", x.restore(1), 1);
        is("24 its PULL", x.pull(1), tenths);
        is("24 IMAGE 0 stays", x.restore(0), 1);
        is("24 its PULL, too", x.pull(1), 4);
        Twins.same("7 read again", States::matched, y -> {
            States.matched(y);
            Due.match(y, States.SECOND);
            y.begin(0);
            y.go(3);
            Due.match(y, States.FIRST);
        });
    }

    /** "-1000100 less the place of a FAULT: all but the tape, and what fault() tells, stays." */
    private static void allThatStays() {
        String other = "side;puller 99 1 1 1 1;when tenth above -1 rest;side;puller 99 1 1 1 1;";
        String ground = "ground 1 20 99;";
        for (int end = 1; end < other.length() + ground.length(); end++) {
            HeelsIn x = Due.of(States.FIRST);
            x.begin(1);
            x.go(3);
            boolean whole = end == other.length();
            is("7 up to " + end, Due.match(x, (other + ground).substring(0, end)) > 0 ? 1 : 0, whole ? 1 : 0);
            is("13 TENTHS at " + end, x.pull(1), whole ? STATE : 3);
            is("9 the MATCH at " + end, x.puller(0, 1, 1), whole ? BAD : 60);
            is("9 the last of SIDE 1 at " + end, x.puller(1, 2, 4), whole ? BAD : 5);
            is("29 FAR at " + end, x.count(6), whole ? 20 : 25);
            is("29 rules at " + end, x.count(3), whole ? 1 : 2);
            is("11 it goes on at " + end, x.go(1), whole ? STATE : 1);
        }
    }

    /** "The number of the latest FAULT; 0 before one." */
    private static void latestFault() {
        HeelsIn x = new HeelsIn();
        is("8 before one", x.fault(), 0);
        Due.match(x, TWO);
        is("8 a good one is none", x.fault(), 0);
        Due.match(x, "side;puller 39");
        is("8 two", x.fault(), 2);
        Due.match(x, "side;" + PULLER.repeat(9));
        is("8 three", x.fault(), 3);
        Due.match(x, TWO);
        is("8 three still", x.fault(), 3);
        x.match();
        is("8 one", x.fault(), 1);
        x.begin(2);
        x.go(0);
        is("8 no refusal is one", x.fault(), 1);
        x.image(0);
        Due.match(x, "side;puller 39");
        x.restore(0);
        is("8 no part of an IMAGE", x.fault(), 2);
    }

    /** "0 WEIGHT, 1 HOLD, 2 BURST, 3 BREATH as told, 4 LAG": of each of sixteen, the least and the greatest. */
    private static void asTold() {
        StringBuilder text = new StringBuilder();
        int[][] told = new int[16][];
        for (int k = 0; k < 16; k++) {
            told[k] = new int[] {k == 15 ? 150 : 40 + k, k == 15 ? 200 : 1 + k, k == 15 ? 400 : 1 + 2 * k, k == 15 ? 60 : 1 + 3 * k, k % 6};
            text.append(k % 8 == 0 ? "side;" : "").append("puller");
            for (int number : told[k]) {
                text.append(' ').append(number);
            }
            text.append(';');
        }
        HeelsIn x = Due.of(text.toString());
        x.begin(0);
        x.go(3);
        for (int k = 0; k < 16; k++) {
            for (int what = 0; what < 5; what++) {
                is("9 " + what + " of " + k, x.puller(k / 8, k % 8, what), told[k][what]);
            }
        }
        for (int side = 0; side < 2; side++) {
            is("9 PULLER 8", x.puller(side, 8, 0), BAD);
            is("9 PULLER -1", x.puller(side, -1, 0), BAD);
            is("9 what 5", x.puller(side, 7, 5), BAD);
            is("9 what -1", x.puller(side, 7, -1), BAD);
        }
        HeelsIn y = Due.of("side;" + PULLER.repeat(8) + "side;" + PULLER);
        Due.match(y, "side;" + PULLER + "side;" + PULLER.repeat(3));
        is("9 none of the one before", y.puller(0, 1, 0), BAD);
        is("9 the third of SIDE 1", y.puller(1, 2, 0), 80);
        is("9 the fourth of SIDE 1", y.puller(1, 3, 0), BAD);
    }
}
