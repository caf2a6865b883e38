import java.nio.charset.StandardCharsets;
import java.util.NoSuchElementException;

/** What the tests share: counting answers that aren't due, and telling texts to a HillTap. */
final class Due {
    private static int asked = 0;
    private static int wrong = 0;
    /** The sentence of the document whose test is running, told ahead of an answer that isn't due. */
    private static String sentence = "";

    private Due() {
    }

    static void sentence(String words) {
        sentence = "[" + words + "] ";
    }

    static void is(String what, long got, long want) {
        asked++;
        if (got != want) {
            wrong++;
            if (wrong <= 50) {
                System.out.println(sentence + what + " answered " + got + ", due is " + want);
            }
        }
    }

    static void yes(String what, boolean so) {
        is(what, so ? 1 : 0, 1);
    }

    static void no(String what, boolean so) {
        is(what, so ? 1 : 0, 0);
    }

    static void refused(String what, HillTap x, long got, int trouble) {
        is(what, got, HillTap.NONE);
        is(what + ", then trouble()", x.trouble(), trouble);
    }

    static void answered(String what, HillTap x, long got, long want) {
        is(what, got, want);
        is(what + ", then trouble()", x.trouble(), 0);
    }

    static void noLed(String what, HillTap x, int story, int i) {
        boolean thrown = false;
        try {
            x.led(story, i);
        } catch (NoSuchElementException e) {
            thrown = true;
        }
        is(what + " throws", thrown ? 1 : 0, 1);
    }

    /** Feeds a text of bytes 0 .. 255, filled up with blanks to whole twenties. */
    static void feed(HillTap x, String text) {
        int[] numbers = numbers(text);
        for (int i = 0; i < numbers.length; i += 5) {
            x.feed(numbers[i], numbers[i + 1], numbers[i + 2], numbers[i + 3], numbers[i + 4]);
        }
    }

    static int[] numbers(String text) {
        byte[] bytes = text.getBytes(StandardCharsets.ISO_8859_1);
        int[] numbers = new int[(bytes.length + 19) / 20 * 5];
        for (int i = 0; i < numbers.length * 4; i++) {
            int b = i < bytes.length ? bytes[i] & 255 : 32;
            numbers[i / 4] = numbers[i / 4] << 8 | b;
        }
        return numbers;
    }

    static int hill(HillTap x, String text) {
        feed(x, text);
        return x.hill(text.length());
    }

    /** A text with a FAULT, told to a new object: there is no HILL then. */
    static void fault(String text, int fault, int place) {
        HillTap x = new HillTap();
        refused("hill of «" + text + "»", x, hill(x, text), 4);
        is("fault() of «" + text + "»", x.fault(), fault);
        is("where() of «" + text + "»", x.where(), place);
        is("size(3) of «" + text + "»", x.size(3), 0);
    }

    /** A text without one. */
    static HillTap sound(String text, int stories) {
        HillTap x = new HillTap();
        answered("hill of «" + text + "»", x, hill(x, text), stories);
        is("fault() of «" + text + "»", x.fault(), 0);
        is("where() of «" + text + "»", x.where(), -1);
        return x;
    }

    /** LEVELS, or what peg() answers, of the DAYS from one on. */
    static void levels(String what, HillTap x, int from, int... due) {
        for (int i = 0; i < due.length; i++) {
            answered(what + ", LEVEL of DAY " + (from + i), x, x.level(from + i), due[i]);
        }
    }

    static void pegs(String what, HillTap x, int story, int peg, int kind, int from, int... due) {
        for (int i = 0; i < due.length; i++) {
            answered(what + ", peg(" + story + ", " + peg + ", " + (from + i) + ", " + kind + ")", x, x.peg(story, peg, from + i, kind), due[i]);
        }
    }

    static HillTap told(String text) {
        HillTap x = new HillTap();
        int stories = hill(x, text);
        if (stories < 1) {
            is("hill of «" + text + "», fault " + x.fault() + " at " + x.where(), stories, 1);
        }
        return x;
    }

    static void end() {
        System.out.println(asked + " answers, " + wrong + " not as due");
        if (wrong != 0 || asked == 0) {
            System.exit(1);
        }
    }
}
