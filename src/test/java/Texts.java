import java.util.Random;

/** Texts by chance, most of them good. */
final class Texts {
    private final Random random;
    private final StringBuilder text = new StringBuilder();

    Texts(Random random) {
        this.random = random;
    }

    String text() {
        side();
        side();
        if (random.nextInt(3) > 0) {
            text.append("ground");
            number(1, 100);
            number(0, random.nextBoolean() ? 20 : 3);
            number(1, 99);
            text.append(';');
        }
        blank();
        return text.toString();
    }

    private void side() {
        text.append("side");
        blank();
        text.append(';');
        int pullers = random.nextInt(12) == 0 ? 8 : random.nextInt(40) == 0 ? 9 : 1 + random.nextInt(4);
        for (int p = 0; p < pullers; p++) {
            blank();
            text.append("puller");
            number(40, 150);
            number(1, 200);
            number(1, 400);
            number(1, random.nextBoolean() ? 60 : 8);
            number(0, random.nextBoolean() ? 5 : 1);
            text.append(';');
        }
        int rules = random.nextInt(30) == 0 ? 7 : random.nextInt(5);
        for (int r = 0; r < rules; r++) {
            rule();
        }
    }

    private void rule() {
        int what = random.nextInt(4);
        text.append("when ").append(new String[] {"breath", "theirs", "thread", "tenth"}[what]).append(' ');
        text.append(random.nextBoolean() ? "below" : "above");
        if (random.nextInt(8) == 0) {
            number(-99, 999);
        } else {
            number(what == 2 ? -9 : 0, what < 2 ? 12 : what == 2 ? 9 : 25);
        }
        blank();
        text.append(new String[] {"hold", "heave", "counter", "rest"}[random.nextInt(4)]);
        blank();
        text.append(';');
    }

    private void blank() {
        if (random.nextInt(5) == 0) {
            text.append(random.nextBoolean() ? " " : "\n");
        }
    }

    private void number(int least, int most) {
        int value = random.nextInt(400) == 0 ? (random.nextBoolean() ? least - 1 : most + 1)
            : least + random.nextInt(most - least + 1);
        if (value >= 0 && (Character.isDigit(text.charAt(text.length() - 1)) || random.nextBoolean())) {
            text.append(random.nextInt(9) == 0 ? "\n " : " ");
        }
        text.append(value);
    }
}
