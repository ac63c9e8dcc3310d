import java.util.ArrayList;
import java.util.List;

/** Two objects of the same calls, one of which hears a call more: all that can be asked of both is alike behind it. */
final class Twins {
    interface Calls {
        void of(HeelsIn x);
    }

    interface Call {
        int of(HeelsIn x);
    }

    private static final int PARTS = 14;
    private static final int FOUND = -1000010;

    private Twins() {
    }

    /** A refusal, or a finding: its answer, what status() tells then, and that nothing else has changed. */
    static void refused(String name, Calls ahead, Call call, int due) {
        for (int part = 0; part < PARTS; part++) {
            HeelsIn one = after(ahead);
            HeelsIn other = after(ahead);
            Due.is(name, call.of(one), due);
            boolean found = due < FOUND && due >= FOUND - 5;
            Due.is(name + ": status()", one.status(), found ? FOUND - due : other.status());
            alike(name, part, one, other);
        }
    }

    /** A question: nothing at all has changed. */
    static void asked(String name, Calls ahead, Call call) {
        for (int part = 0; part < PARTS; part++) {
            HeelsIn one = after(ahead);
            HeelsIn other = after(ahead);
            call.of(one);
            Due.is(name + ": status()", one.status(), other.status());
            alike(name, part, one, other);
        }
    }

    /** Calls that differ, but shall come to the same. */
    static void same(String name, Calls some, Calls others) {
        for (int part = 0; part < PARTS; part++) {
            HeelsIn one = after(some);
            HeelsIn other = after(others);
            Due.is(name + ": status()", one.status(), other.status());
            alike(name, part, one, other);
        }
    }

    private static HeelsIn after(Calls ahead) {
        HeelsIn x = new HeelsIn();
        ahead.of(x);
        return x;
    }

    private static void alike(String name, int part, HeelsIn one, HeelsIn other) {
        List<Integer> of = look(part, one);
        List<Integer> due = look(part, other);
        for (int k = 0; k < due.size(); k++) {
            Due.is(name + ": answer " + k + " of part " + part, of.get(k), due.get(k));
        }
    }

    /** A part for each object, as what they ask changes it, and no object hears more than 512 calls. */
    private static List<Integer> look(int part, HeelsIn x) {
        List<Integer> answers = new ArrayList<>();
        switch (part) {
            case 0 -> state(x, answers);
            case 1 -> tenths(x, answers);
            case 2 -> items(x, 1, 2, answers);
            case 3 -> items(x, 1, 3, answers);
            case 4 -> items(x, 1, 5, answers);
            case 5 -> lanes(x, answers);
            case 6 -> {
                answers.add(x.go(40));
                state(x, answers);
            }
            case 7 -> {
                answers.add(x.begin(1));
                answers.add(x.go(7));
                state(x, answers);
            }
            case 8, 9 -> {
                answers.add(x.restore(part - 8));
                state(x, answers);
                answers.add(x.go(9));
                answers.add(x.pull(0));
            }
            case 10 -> {
                answers.add(x.feed(' ', 1));
                answers.add(x.match());
                state(x, answers);
            }
            case 11 -> asks(x, answers);
            case 12 -> {
                answers.add(x.sheet(0, 0, 4));
                answers.add(x.set(0, 0, 2));
                answers.add(x.set(0, 3, 1));
                answers.add(x.told(0, 0, 2));
                answers.add(x.image(1));
                answers.add(x.go(1));
                answers.add(x.restore(1));
                state(x, answers);
                answers.add(x.go(3));
                answers.add(x.pull(0));
            }
            default -> foretold(x, answers);
        }
        return answers;
    }

    private static void state(HeelsIn x, List<Integer> answers) {
        for (int what = 0; what < 8; what++) {
            answers.add(x.count(what));
        }
        answers.add(x.fault());
        for (int what = 0; what < 7; what++) {
            answers.add(x.pull(what));
        }
        for (int i = 0; i < 17; i++) {
            answers.add(x.trace(i));
        }
        for (int side = 0; side < 2; side++) {
            answers.add(x.read(side));
            for (int p = 0; p < 8; p++) {
                answers.add(x.kind(side, p));
                for (int what = 0; what < 5; what++) {
                    answers.add(x.puller(side, p, what));
                }
                for (int what = 0; what < 3; what++) {
                    answers.add(x.doing(side, p, what));
                }
            }
        }
    }

    private static void tenths(HeelsIn x, List<Integer> answers) {
        for (int ago = 0; ago <= 60; ago++) {
            for (int what = 0; what < 5; what++) {
                answers.add(x.later(ago, what));
            }
        }
    }

    /** Whether each ITEM is (h and b) by 2 or more: one TENTH of it was a burst, or a hold. */
    private static void items(HeelsIn x, int h, int b, List<Integer> answers) {
        for (int sheet = 0; sheet < 8; sheet++) {
            for (int i = 0; i < 40; i++) {
                answers.add(x.left(sheet, i, 1, h, b, 0));
            }
        }
    }

    private static void lanes(HeelsIn x, List<Integer> answers) {
        for (int sheet = 0; sheet < 8; sheet++) {
            answers.add(x.set(sheet, 0, 0x12345678));
            answers.add(x.drop(sheet));
        }
    }

    private static void asks(HeelsIn x, List<Integer> answers) {
        for (int k = 0; k < 32; k++) {
            answers.add(x.ask(k / 16, k / 2 % 8, k % 2));
            for (int i = 0; i < 5; i++) {
                answers.add(x.trace(i));
            }
            for (int kind = 0; kind < 6 && k % 2 == 0; kind++) {
                answers.add(x.as(k / 16, k / 2 % 8, kind));
            }
        }
    }

    private static void foretold(HeelsIn x, List<Integer> answers) {
        for (int what = 0; what < 4; what++) {
            answers.add(x.three(30, what));
        }
        for (int side = 0; side < 2; side++) {
            answers.add(x.together(side, 1, 0));
            for (int place = -1; place < 8; place++) {
                answers.add(x.stands(side, place));
            }
        }
        answers.add(x.chosen(300, 5, 0));
        answers.add(x.chosen(300, 5, 1));
    }
}
