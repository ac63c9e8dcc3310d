import java.util.ArrayList;
import java.util.List;
import java.util.regex.Matcher;
import java.util.regex.Pattern;

/** The model's reading of a text: all tokens first, then the words of the grammar. */
final class ModelText {
    static final class Fault extends Exception {
        private static final long serialVersionUID = 1L;
        final int place;
        final int number;

        Fault(int place, int number) {
            this.place = place;
            this.number = number;
        }
    }

    private static final Pattern TOKEN = Pattern.compile("[ \\n]*(?:([a-z]+)|(-?[0-9]+)|(;)|($)|([\\s\\S]))");

    private record Token(String text, int place) { }

    private final List<Token> tokens = new ArrayList<>();
    private int at = 0;

    ModelText(String text) {
        Matcher m = TOKEN.matcher(text);
        int from = 0;
        while (m.find(from) && m.group(4) == null) {
            String token = null;
            int place = 0;
            for (int g = 1; g <= 5; g++) {
                if (m.group(g) != null) {
                    token = m.group(g);
                    place = m.start(g);
                }
            }
            tokens.add(new Token(token, place));
            from = m.end();
        }
        tokens.add(new Token("", text.length()));
    }

    private Token next() {
        return tokens.get(at);
    }

    private boolean is(String text) {
        return next().text().equals(text);
    }

    private void expect(String text) throws Fault {
        if (!is(text)) {
            throw new Fault(next().place(), 1);
        }
        at++;
    }

    private int number(int least, int most) throws Fault {
        Token t = next();
        if (!t.text().matches("-?[0-9]{1,3}")) {
            throw new Fault(t.place(), 1);
        }
        int value = Integer.parseInt(t.text());
        if (value < least || value > most) {
            throw new Fault(t.place(), 2);
        }
        at++;
        return value;
    }

    private String oneOf(String... words) throws Fault {
        for (String word : words) {
            if (is(word)) {
                at++;
                return word;
            }
        }
        throw new Fault(next().place(), 1);
    }

    private Model.Team team() throws Fault {
        expect("side");
        expect(";");
        List<Model.Puller> pullers = new ArrayList<>();
        do {
            if (is("puller") && pullers.size() == 8) {
                throw new Fault(next().place(), 3);
            }
            expect("puller");
            int[] traits = {number(40, 150), number(1, 200), number(1, 400), number(1, 60), number(0, 5)};
            pullers.add(new Model.Puller(traits));
            expect(";");
        } while (is("puller"));
        List<Model.Rule> rules = new ArrayList<>();
        while (is("when")) {
            if (rules.size() == 6) {
                throw new Fault(next().place(), 3);
            }
            expect("when");
            String what = oneOf("breath", "theirs", "thread", "tenth");
            boolean above = oneOf("below", "above").equals("above");
            int number = number(-99, 999);
            int order = List.of("hold", "heave", "counter", "rest").indexOf(oneOf("hold", "heave", "counter", "rest"));
            rules.add(new Model.Rule(what, above, number, order));
            expect(";");
        }
        return new Model.Team(pullers, rules);
    }

    Model.Bout bout() throws Fault {
        Model.Team first = team();
        Model.Team second = team();
        int grip = 100;
        int wear = 0;
        int far = 20;
        if (is("ground")) {
            expect("ground");
            grip = number(1, 100);
            wear = number(0, 20);
            far = number(1, 99);
            expect(";");
        }
        expect("");
        return new Model.Bout(List.of(first, second), grip, wear, far);
    }
}
