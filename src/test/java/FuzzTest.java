import java.util.NoSuchElementException;
import java.util.Random;

/** Runs of calls by chance, each answer held against Model's. */
public final class FuzzTest {
    private static final int RUNS = Integer.getInteger("runs", 400);

    private final Random random;
    private final Texts texts;
    private final HillTap x = new HillTap();
    private final Model m = new Model();
    private final int run;

    private FuzzTest(int run) {
        this.run = run;
        random = new Random(run);
        texts = new Texts(random);
    }

    public static void main(String[] args) {
        for (int run = 0; run < RUNS; run++) {
            new FuzzTest(run).goThroughCalls();
            new FuzzTest(RUNS + run).goThroughTexts();
        }
        Due.end();
    }

    private void goThroughCalls() {
        int calls = 0;
        while (calls < 465) {
            calls += random.nextInt(60) == 0 || calls == 3 ? hill(calls > 3 && random.nextInt(4) == 0) : call();
        }
    }

    private void goThroughTexts() {
        int calls = 0;
        while (calls < 465) {
            calls += hill(true);
        }
    }

    private void due(String what, int got, int want) {
        Due.is("run " + run + ": " + what, got, want);
        Due.is("run " + run + ": " + what + ", trouble()", x.trouble(), m.trouble);
        Due.is("run " + run + ": " + what + ", where()", x.where(), m.where());
        Due.is("run " + run + ": " + what + ", fault()", x.fault(), m.fault);
    }

    private int hill(boolean spoilt) {
        String text = spoilt ? texts.spoilt() : texts.sound();
        int[] n = Due.numbers(text);
        if (random.nextInt(8) != 0) {
            // Else most texts would stand behind what is on THE TAPE already.
            due("hill(0)", x.hill(0), m.hill(0));
        }
        for (int i = 0; i < n.length; i += 5) {
            feed(new int[] {n[i], n[i + 1], n[i + 2], n[i + 3], n[i + 4]});
        }
        int length = random.nextInt(10) == 0 ? random.nextInt(1000) - 20 : Math.min(text.length(), m.tape.length());
        due("hill(" + length + ") of «" + text + "»", x.hill(length), m.hill(length));
        return n.length / 5 + 2;
    }

    private void feed(int[] n) {
        due("feed", x.feed(n[0], n[1], n[2], n[3], n[4]), m.feed(n));
    }

    /** Mostly 0 .. most, now and then out of that. */
    private int about(int most) {
        switch (random.nextInt(24)) {
            case 0: return -1;
            case 1: return most + 1;
            case 2: return random.nextInt(8) == 0 ? random.nextInt() : most;
            default: return random.nextInt(most + 1);
        }
    }

    private int story() {
        return about(Math.max(0, m.size(3) - 1));
    }

    private int peg() {
        return about(Math.max(0, m.size(0) - 1));
    }

    private int village() {
        return about(Math.max(0, m.size(4) - 1));
    }

    private int day() {
        return about(59);
    }

    private int call() {
        int s = story();
        int p = peg();
        int d = day();
        int v = village();
        int a = about(20);
        boolean most = random.nextBoolean();
        switch (random.nextInt(36)) {
            case 0: feed(new int[] {random.nextInt(), random.nextInt(), 0x20202020, 0x6c616b65, -1}); break;
            case 1: due("level " + d, x.level(d), m.level(d)); break;
            case 2: case 3: {
                int level = about(999);
                due("plan " + d + " " + level, x.plan(d, level), m.plan(d, level));
                break;
            }
            case 4: due("undo", x.undo() ? 1 : 0, m.undo()); break;
            case 5: {
                int what = about(2);
                due("peg " + s + " " + p + " " + d + " " + what, x.peg(s, p, d, what), m.peg(s, p, d, what));
                break;
            }
            case 6: due("gone " + s, x.gone(s), m.gone(s)); break;
            case 7: due("wave " + s, x.wave(s), m.wave(s)); break;
            case 8: case 9: case 10: read(s, p, d); break;
            case 11: due("forget", x.forget(), m.forget()); break;
            case 12: due("fits", x.fits(), m.fits()); break;
            case 13: {
                int i = about(2);
                due("fit " + i, x.fit(i), m.fit(i));
                break;
            }
            case 14: due("weight " + s, x.weight(s), m.weight(s)); break;
            case 15: due("weight -1", x.weight(-1), m.weight(-1)); break;
            case 16: due("clear", x.clear(), m.clear()); break;
            case 17: due("lettings", x.lettings(), m.lettings()); break;
            case 18: due("tap " + s, x.tap(s), m.tap(s)); break;
            case 19: {
                int n = about(3);
                due("fooled " + n, x.fooled(n), m.fooled(n));
                break;
            }
            case 20: due("nought " + s + " " + p + " " + d, x.nought(s, p, d), m.nought(s, p, d)); break;
            case 21: due("span " + s + " " + p + " " + d + " " + a + " " + most, x.span(s, p, d, a, most), m.span(s, p, d, a, most)); break;
            case 22: due("helps " + s + " " + d, x.helps(s, d), m.helps(s, d)); break;
            case 23: due("last " + s, x.last(s), m.last(s)); break;
            case 24: due("safe " + s, x.safe(s), m.safe(s)); break;
            case 25: {
                int depth = about(99);
                due("found " + s + " " + depth, x.found(s, depth), m.found(s, depth));
                break;
            }
            case 26: due("bore", x.bore(), m.bore()); break;
            case 27: due("struck " + s + " " + v, x.struck(s, v), m.struck(s, v)); break;
            case 28: due("dead " + s + " " + d, x.dead(s, d), m.dead(s, d)); break;
            case 29: case 30: {
                int cost = random.nextInt(4) == 0 ? about(999999) : about(500);
                due("tell " + v + " " + cost, x.tell(v, cost), m.tell(v, cost));
                break;
            }
            case 31: due("part " + s + " " + p + " " + d, x.part(s, p, d), m.part(s, p, d)); break;
            case 32: {
                int k = about(Math.max(0, m.size(5) - 1));
                due("knew " + k, x.knew(k), m.knew(k));
                break;
            }
            case 33: led(s, a / 2); break;
            case 34: {
                int what = about(9);
                due("size " + what, x.size(what), m.size(what));
                break;
            }
            default: {
                int n = random.nextInt(4) == 0 ? a : -1 - a;
                due("hill " + n, x.hill(n), m.hill(n));
            }
        }
        return 1;
    }

    private void read(int s, int p, int d) {
        int off = random.nextBoolean() ? about(3) : about(999);
        int inches = about(99999);
        int said = m.peg(s, p, d, 0);
        due("peg " + s + " " + p + " " + d + " 0", x.peg(s, p, d, 0), said);
        if (random.nextInt(5) != 0 && said >= 0) {
            // What a STORY says, or nearly: else nothing would ever fit.
            inches = said + random.nextInt(3) - 1;
        }
        due("read " + p + " " + d + " " + inches + " " + off, x.read(p, d, inches, off), m.read(p, d, inches, off));
    }

    private void led(int s, int i) {
        int got;
        try {
            got = x.led(s, i);
        } catch (NoSuchElementException e) {
            got = -3;
        }
        due("led " + s + " " + i, got, m.led(s, i));
    }
}
