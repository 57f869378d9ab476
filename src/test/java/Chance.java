import java.util.ArrayList;
import java.util.List;
import java.util.Random;

/** Texts and arguments by chance, from a seed, so that every run of the tests is the same. */
final class Chance {
    final Random random;

    Chance(long seed) {
        random = new Random(seed);
    }

    int upTo(int most) {
        return random.nextInt(most + 1);
    }

    int within(int least, int most) {
        return least + upTo(most - least);
    }

    boolean oneIn(int n) {
        return random.nextInt(n) == 0;
    }

    String one(String... of) {
        return of[random.nextInt(of.length)];
    }

    /** A number at an edge or between, or a little beside. */
    int near(int least, int most) {
        switch (random.nextInt(12)) {
            case 0: return least - 1;
            case 1: return most + 1;
            case 2: return least;
            case 3: return most;
            case 4: return oneIn(4) ? random.nextInt() : within(least, most);
            default: return within(least, most);
        }
    }

    String text() {
        String text = wholeText();
        switch (random.nextInt(6)) {
            case 0: return spoilt(text);
            case 1: return spoilt(spoilt(text));
            default: return text;
        }
    }

    /** A text that has no FAULT, but for what is too much. */
    String wholeText() {
        StringBuilder text = new StringBuilder();
        int towns = oneIn(12) ? upTo(9) : within(1, 5);
        for (int t = 0; t < towns; t++) {
            int luck = oneIn(3) ? upTo(999) : upTo(90);
            int bad = oneIn(3) ? 0 : oneIn(3) ? upTo(999) : upTo(60);
            text.append("town ").append(luck).append(' ').append(bad).append(' ').append(upTo(20))
                    .append(' ').append(upTo(20)).append(blank()).append(';').append(blank());
        }
        List<String> lines = new ArrayList<>();
        for (int i = 0; towns > 1 && i < upTo(9); i++) {
            int a = random.nextInt(towns);
            int b = random.nextInt(towns);
            boolean again = false;
            for (String line : lines) {
                again |= line.startsWith("way " + a + " " + b) || line.startsWith("way " + b + " " + a);
            }
            if (a != b && !again) {
                lines.add("way " + a + " " + b + " " + within(1, oneIn(2) ? 3 : 9) + " " + upTo(9));
            }
        }
        for (int i = 0; towns > 0 && i < upTo(11); i++) {
            int town = oneIn(2) ? 0 : random.nextInt(towns);
            lines.add(one("crate ", "ballast ") + (oneIn(4) ? upTo(3) : upTo(99)) + " " + town + one("", "", " cat"));
        }
        if (oneIn(2)) {
            lines.add(random.nextInt(lines.size() + 1), "odds " + expr(3));
        }
        for (String line : lines) {
            if (text.length() + line.length() + 3 <= 690) {
                text.append(line).append(blank()).append(';').append(blank());
            }
        }
        return text.toString();
    }

    String blank() {
        return one("", "", "", " ", "\n");
    }

    String expr(int deep) {
        switch (random.nextInt(deep > 0 ? 10 : 3)) {
            case 0: return String.valueOf(oneIn(5) ? upTo(9999) : upTo(12));
            case 1: return one("luck", "bad", "stake", "makes", "day", "crates");
            case 2: return one("luck / 10", "6 + crates", "bad", "day", "crates * 4", "luck");
            case 3: return "(" + expr(deep - 1) + ")";
            case 4: return "not " + expr(deep - 1);
            case 5: return "(" + expr(deep - 1) + one(" < ", " = ") + expr(deep - 1) + ") * " + upTo(14);
            case 6: return expr(deep - 1) + one(" or ", " and ") + expr(deep - 1);
            default: return expr(deep - 1) + one(" + ", " - ", "*", "/") + expr(deep - 1);
        }
    }

    /** One token or byte is put in, taken out, or changed. */
    String spoilt(String text) {
        if (text.isEmpty()) {
            return one("odds", ";", "A", "town", "9");
        }
        int at = random.nextInt(text.length());
        String token = one(";", "(", ")", "+", "-", "*", "/", "<", "=", " town ", " way ", " crate ", " odds 1;", " cat ",
                " not ", " or ", " and ", " luck ", " won ", "0", "12345", "\t", "A", String.valueOf((char) 200),
                " not not not not not not ", "(((((", " 1 ", ";odds (((((((", ";odds ((((((1", ";odds not not not not not not not 1");
        switch (random.nextInt(4)) {
            case 0: return text.substring(0, at);
            case 1: return text.substring(0, at) + text.substring(at + 1);
            default: return text.substring(0, at) + token + text.substring(at + (oneIn(2) ? 1 : 0));
        }
    }
}
