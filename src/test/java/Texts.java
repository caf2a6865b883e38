import java.util.ArrayList;
import java.util.List;
import java.util.Random;

/** Texts of HILLS by chance (the same for the same seed), sound ones and spoilt ones. */
final class Texts {
    private static final String[] WORDS = {
        "lake", "stands", "moves", "to", "peg", "push", "bed", "from", "level", "rain", "much", "story", "weighs",
        "creep", "new", "pressed", "late", "weak", "after", "quick", "above", "rains", "village", "high", "people",
        "needs", "knower", "of", "reads", "p", "q", "abcdefgh", "abcdefghi", ";", "0", "1", "59", "60", "999", "1000", "100"
    };

    private final Random random;
    private int names;

    Texts(Random random) {
        this.random = random;
    }

    private int upTo(int most) {
        return random.nextInt(most + 1);
    }

    private int between(int least, int most) {
        return least + random.nextInt(most - least + 1);
    }

    private String name() {
        names++;
        StringBuilder b = new StringBuilder();
        b.append((char) ('a' + names % 26)).append((char) ('a' + names / 26));
        int more = upTo(6);
        for (int i = 0; i < more; i++) b.append((char) ('a' + upTo(25)));
        return b.toString();
    }

    private String whole(int n) {
        return random.nextInt(10) == 0 && n < 100 ? "0" + n : "" + n;
    }

    private String kind() {
        int k = random.nextInt(4) == 0 ? 99 : upTo(99);
        switch (upTo(5)) {
            case 0: return "creep " + whole(k);
            case 1: return "new " + whole(k);
            case 2: return "pressed " + whole(k) + " late " + between(1, 20);
            case 3: return "weak " + whole(k) + " after " + (random.nextBoolean() ? upTo(60) : upTo(999));
            case 4: return "quick " + whole(k) + " above " + (random.nextBoolean() ? between(1, 20) : between(1, 99));
            default: return "rains " + (random.nextBoolean() ? upTo(10) : k);
        }
    }

    /** A sound HILL of 900 bytes at most. */
    String sound() {
        String text;
        do {
            text = any();
        } while (text.length() > 900);
        return text;
    }

    private String any() {
        names = 0;
        List<String> lines = new ArrayList<>();
        int to = random.nextBoolean() ? between(1, 999) : between(300, 999);
        int stands = random.nextInt(3) == 0 ? 0 : upTo(Math.min(500, to));
        lines.add("lake stands " + whole(stands) + " moves " + between(1, 50) + " to " + to);
        int scale = random.nextInt(3) == 0 ? 99 : 999;
        int pegs = between(1, 5);
        List<String> pegNames = new ArrayList<>();
        List<String> pegLines = new ArrayList<>();
        for (int i = 0; i < pegs; i++) {
            String n = name();
            pegNames.add(n);
            int push = upTo(scale);
            int bed = random.nextBoolean() ? upTo(scale) : Math.min(999, push + upTo(200));
            pegLines.add("peg " + n + " push " + whole(push) + " bed " + bed);
        }
        for (int i = upTo(8); i > 0; i--) {
            lines.add("from " + upTo(59) + " level " + (random.nextBoolean() ? upTo(999) : upTo(to)));
        }
        for (int i = upTo(6); i > 0; i--) {
            lines.add("rain " + upTo(59) + " much " + between(1, 99));
        }
        for (int i = between(1, 6); i > 0; i--) {
            lines.add("story " + name() + " weighs " + (random.nextBoolean() ? between(1, 4) : between(1, 99)) + " " + kind());
        }
        for (int i = upTo(4); i > 0; i--) {
            lines.add("village " + name() + " high " + upTo(999) + " people " + between(1, 999) + " needs " + upTo(30));
        }
        java.util.Collections.shuffle(lines, random);
        lines.addAll(0, pegLines);
        for (int i = upTo(4); i > 0; i--) {
            lines.add("knower " + name() + " of " + pegNames.get(upTo(pegs - 1)) + " reads " + upTo(random.nextBoolean() ? 99 : 999));
        }
        StringBuilder b = new StringBuilder();
        for (int i = 0; i < lines.size(); i++) {
            if (i > 0) b.append(random.nextInt(6) == 0 ? " ; " : ";");
            b.append(lines.get(i));
        }
        return random.nextInt(5) == 0 ? b.toString().replace(" push ", "push").replace(" much ", "much ") : b.toString();
    }

    /** A text with some bytes, TOKENS or LINES changed, left out, or said again. */
    String spoilt() {
        StringBuilder b = new StringBuilder(sound());
        for (int i = between(1, 2); i > 0; i--) {
            int at = upTo(Math.max(0, b.length() - 1));
            switch (upTo(6)) {
                case 0:
                    b.setLength(at);
                    break;
                case 1:
                    if (b.length() > 0) b.deleteCharAt(at);
                    break;
                case 2:
                    if (b.length() > 0) b.setCharAt(at, (char) upTo(255));
                    break;
                case 3:
                    b.insert(at, WORDS[upTo(WORDS.length - 1)]);
                    break;
                default:
                    changeToken(b);
            }
        }
        if (random.nextInt(4) == 0) b.append(";").append(sound());
        if (b.length() > 900) b.setLength(900);
        return b.toString();
    }

    private void changeToken(StringBuilder b) {
        String[] tokens = b.toString().split("(?<=[ ;])|(?=[ ;])");
        int at = upTo(tokens.length - 1);
        tokens[at] = random.nextBoolean() ? WORDS[upTo(WORDS.length - 1)] : tokens[upTo(tokens.length - 1)];
        b.setLength(0);
        for (String t : tokens) b.append(t);
    }
}
