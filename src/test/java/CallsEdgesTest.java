/**
 * The boundary cases that go across the calls: promises 1, 34 and 35, Terms IV (TROUBLE), calls that are refused and
 * change nothing, wrong numbers as far off as they can be, and an object's 512th call.
 */
public final class CallsEdgesTest {
    private static final String FULL = "lake stands 20 moves 10 to 90;peg p push 40 bed 10;peg q push 30 bed 0;from 3 level 60;from 9 level 0;"
        + "rain 2 much 5;story a weighs 2 creep 50;story b weighs 3 weak 20 after 9;story c weighs 4 rains 7;"
        + "village v high 1 people 9 needs 3;village w high 0 people 5 needs 0;knower k of q reads 5";
    private static final int[] WRONG = {Integer.MIN_VALUE, Integer.MIN_VALUE + 1, -1000, -61, -60, -3, 100, 900, 1000, 65536, Integer.MAX_VALUE - 1, Integer.MAX_VALUE};

    private CallsEdgesTest() {
    }

    public static void main(String[] args) {
        newObject();
        sizes();
        sizesWithoutAHill();
        theLastOfEachSort();
        troubleOfTheLatest();
        troubleOfCallsThatMayBeRefused();
        notSoIsNever();
        refusedCallsChangeNothing();
        asksChangeNothing();
        theFirstReasonCounts();
        wrongNumbersFarOff();
        objectsAreApart();
        call512();
        Due.end();
    }

    private static void newObject() {
        Due.sentence("1: a new object: no HILL");
        HillTap x = new HillTap();
        Due.is("trouble()", x.trouble(), 0);
        Due.is("fault()", x.fault(), 0);
        Due.is("where()", x.where(), -1);
        Due.is("forget()", x.forget(), 0);
        Due.noLed("led(0, 0)", x, 0, 0);
        for (int call = 0; call <= 25; call++) {
            Due.refused("call " + call, x, refusable(x, call), call == 0 ? 6 : 1);
        }
        Due.answered("weight(NONE)", x, x.weight(-1), 0);
        Due.is("the first twenty bytes", x.feed(0, 0, 0, 0, 0), 20);
    }

    /** A call that finds the first of each sort, if there is a HILL with them; undo() counts as NONE if it is false. */
    private static int refusable(HillTap x, int call) {
        switch (call) {
            case 0: return x.undo() ? 1 : -1;
            case 1: return x.level(0);
            case 2: return x.plan(0, 0);
            case 3: return x.peg(0, 0, 0, 0);
            case 4: return x.gone(0);
            case 5: return x.wave(0);
            case 6: return x.read(0, 0, 0, 0);
            case 7: return x.fits();
            case 8: return x.fit(0);
            case 9: return x.weight(0);
            case 10: return x.clear();
            case 11: return x.lettings();
            case 12: return x.tap(0);
            case 13: return x.fooled(0);
            case 14: return x.nought(0, 0, 0);
            case 15: return x.span(0, 0, 0, 0, true);
            case 16: return x.helps(0, 0);
            case 17: return x.last(0);
            case 18: return x.safe(0);
            case 19: return x.found(0, 0);
            case 20: return x.struck(0, 0);
            case 21: return x.dead(0, 0);
            case 22: return x.tell(0, 0);
            case 23: return x.part(0, 0, 0);
            case 24: return x.knew(0);
            default: return x.bore();
        }
    }

    private static void sizes() {
        Due.sentence("34: size: NONE for others");
        HillTap x = Due.told(FULL);
        x.read(0, 0, 0, 0);
        x.feed(0, 0, 0, 0, 0);
        int[] due = {2, 2, 1, 3, 2, 1, 1, 20, 20, 90};
        for (int what = 0; what < due.length; what++) {
            Due.is("size(" + what + ")", x.size(what), due[what]);
        }
        for (int what : new int[] {-1, -2, 10, 11, Integer.MIN_VALUE, Integer.MAX_VALUE}) {
            Due.is("size(" + what + ")", x.size(what), -1);
        }
        x.plan(0, 0);
        Due.is("plan()'s too", x.size(1), 3);
        x.undo();
        Due.is("no more", x.size(1), 2);
        Due.is("lowest stands", Due.told(FULL.replace("stands 20", "stands 0")).size(8), 0);
    }

    private static void sizesWithoutAHill() {
        Due.sentence("34: size: 0 for what there isn't");
        HillTap x = new HillTap();
        for (int what = 0; what < 10; what++) {
            Due.is("without a HILL: size(" + what + ")", x.size(what), 0);
        }
        Due.is("size(10)", x.size(10), -1);
        Due.is("size(-1)", x.size(-1), -1);
        Due.hill(x, FULL);
        Due.hill(x, "lake stands 7 moves 1 to 8;peg p push 1 bed 1;story s weighs 1 creep 1");
        int[] due = {1, 0, 0, 1, 0, 0, 0, 0, 7, 8};
        for (int what = 0; what < due.length; what++) {
            Due.is("a HILL of three LINES behind a fuller one: size(" + what + ")", x.size(what), due[what]);
        }
    }

    private static void theLastOfEachSort() {
        Due.sentence("5 PEGS, 6 STORIES, 4 villages, 4 knowers: the last of each is told, one behind it refused");
        StringBuilder b = new StringBuilder("lake stands 10 moves 1 to 10");
        for (int i = 0; i < 6; i++) {
            String name = " " + (char) ('a' + i);
            b.append(i < 5 ? ";peg" + name + "p push " + (10 * i + 10) + " bed 0" : "");
            b.append(";story").append(name).append("s weighs ").append(i + 1).append(" rains ").append(i == 5 ? 95 : 0);
            b.append(i < 4 ? ";village" + name + "v high 1 people " + (i + 1) + " needs " + i : "");
            b.append(i > 0 && i < 5 ? ";knower" + name + "k of " + name + "p reads " + i : "");
        }
        HillTap x = Due.told(b + ";rain 9 much 10");
        // By the last STORY 950 are added on DAY 9: SPEEDS 96 to 100, 490 together, WAVE 49
        Due.answered("PEG 4 by STORY 5", x, x.peg(5, 4, 8, 0), 45);
        Due.refused("PEG 5", x, x.peg(5, 5, 8, 0), 1);
        Due.refused("STORY 6", x, x.peg(6, 4, 8, 0), 1);
        Due.answered("GONE by STORY 5", x, x.gone(5), 9);
        Due.answered("WAVE by STORY 5", x, x.wave(5), 49);
        Due.answered("village 3 by STORY 5", x, x.struck(5, 3), 1);
        Due.refused("village 4", x, x.struck(5, 4), 1);
        Due.answered("village 3", x, x.tell(3, 0), 6);
        Due.answered("all four", x, x.dead(5, 59), 10);
        Due.answered("fits", x, x.fits(), 6);
        Due.answered("fit(5)", x, x.fit(5), 5);
        Due.refused("fit(6)", x, x.fit(6), 1);
        Due.answered("WEIGHT", x, x.weight(-1), 21);
        Due.answered("STORY 5's", x, x.weight(5), 6);
        Due.answered("all find alike", x, x.bore(), 0);
        for (int i = 0; i < 24; i++) {
            Due.answered("read", x, x.read(4, 59 - i, 5 * (60 - i), 0), i + 1);
        }
        Due.answered("all but STORY 5", x, x.fits(), 5);
        Due.refused("fit(5)", x, x.fit(5), 1);
        Due.answered("of five", x, x.weight(-1), 15);
        Due.answered("knower 3 of PEG 4", x, x.knew(3), 36);
        Due.refused("knower 4", x, x.knew(4), 1);
        Due.is("led(5, 1)", x.led(5, 1), 9);
        Due.noLed("led(6, 0)", x, 6, 0);
    }

    private static void troubleOfTheLatest() {
        Due.sentence("IV: TROUBLE of the latest call that may be refused: 0 it wasn't; 1, 2, 3, 4, 6");
        HillTap x = Due.told(FULL);
        Due.is("behind hill()", x.trouble(), 0);
        x.level(60);
        Due.is("1 there is none such", x.trouble(), 1);
        x.level(0);
        Due.is("0 it wasn't", x.trouble(), 0);
        x.found(0, 100);
        Due.is("2 a number", x.trouble(), 2);
        x.plan(0, 0);
        x.level(60);
        Due.yes("undo() that isn't refused", x.undo());
        Due.is("0 it wasn't", x.trouble(), 0);
        for (int i = 0; i < 25; i++) {
            x.read(0, 0, 0, 0);
        }
        Due.is("3 no room", x.trouble(), 3);
        x.gone(0);
        Due.is("-2 is no refusal", x.trouble(), 0);
        x.hill(0);
        Due.is("4 a FAULT", x.trouble(), 4);
        x.undo();
        Due.is("6 there is none", x.trouble(), 6);
        x.hill(-1);
        Due.is("2 a number", x.trouble(), 2);
        for (int call = 1; call <= 25; call++) {
            x.forget();
            x.undo();
            Due.is("undo()", x.trouble(), 6);
            Due.yes("call " + call + " isn't refused", refusable(x, call) != -1);
            Due.is("call " + call, x.trouble(), 0);
            while (x.size(1) > 2) {
                x.undo();
            }
        }
    }

    private static void troubleOfCallsThatMayBeRefused() {
        Due.sentence("IV: calls that may be refused (those of which a number is told)");
        HillTap x = Due.told(FULL);
        int[] left = {1, 2, 6};
        for (int trouble : left) {
            if (trouble == 1) {
                x.level(60);
            } else if (trouble == 2) {
                x.hill(-1);
            } else {
                x.undo();
            }
            x.feed(0, 0, 0, 0, 0);
            Due.is("feed()", x.trouble(), trouble);
            x.fault();
            Due.is("fault()", x.trouble(), trouble);
            x.where();
            Due.is("where()", x.trouble(), trouble);
            x.forget();
            Due.is("forget()", x.trouble(), trouble);
            x.led(0, 0);
            Due.is("led()", x.trouble(), trouble);
            Due.noLed("led(9, 0)", x, 9, 0);
            Due.is("led() that throws", x.trouble(), trouble);
            x.size(0);
            Due.is("size()", x.trouble(), trouble);
            Due.is("size() of others", x.size(99), -1);
            Due.is("size() of others", x.trouble(), trouble);
        }
        while (x.size(7) < 900) {
            x.feed(0, 0, 0, 0, 0);
        }
        Due.is("a full TAPE", x.feed(0, 0, 0, 0, 0), -1);
        Due.is("feed() that answers NONE", x.trouble(), 6);
    }

    private static void notSoIsNever() {
        Due.sentence("IV: 5 not so: no promise names it");
        HillTap x = Due.told(FULL);
        for (int call = 0; call <= 25; call++) {
            refusable(x, call);
            Due.no("call " + call, x.trouble() == 5);
        }
    }

    /** What all calls that change nothing answer, as one text. */
    private static String state(HillTap x) {
        StringBuilder b = new StringBuilder();
        for (int what = 0; what < 10; what++) {
            b.append(x.size(what)).append(' ');
        }
        b.append(x.fault()).append(';');
        for (int day = 0; day < 60; day += 6) {
            b.append(x.level(day)).append(' ');
        }
        for (int story = 0; story < x.size(3); story++) {
            b.append(x.peg(story, 1, 59, 0)).append(' ').append(x.weight(story)).append(' ').append(x.safe(story)).append(' ');
        }
        return b.append(x.fits()).append(' ').append(x.knew(0)).append(' ').append(x.lettings()).toString();
    }

    private static void refusedCallsChangeNothing() {
        Due.sentence("the constants: NONE: there is none; refused");
        HillTap x = Due.told(FULL);
        x.feed(0x20202020, 0, 0, 0, 0);
        x.plan(20, 30);
        x.read(1, 4, 20, 9);
        String state = state(x);
        int[] answers = {x.hill(21), x.hill(-1), x.level(60), x.plan(60, 0), x.plan(0, 1000), x.peg(3, 0, 0, 0), x.peg(0, 2, 0, 0), x.peg(0, 0, 0, 3),
            x.gone(3), x.wave(3), x.read(2, 0, 0, 0), x.read(0, 60, 0, 0), x.read(0, 0, 100000, 0), x.read(0, 0, 0, 1000), x.fit(6), x.weight(3),
            x.tap(3), x.fooled(-1), x.nought(0, 0, 59), x.span(0, 0, 0, 21, true), x.helps(0, 60), x.last(3), x.safe(3), x.found(0, 100),
            x.struck(0, 2), x.dead(0, 60), x.tell(2, 0), x.tell(0, 1000000), x.part(0, 2, 0), x.knew(1), x.size(10)};
        for (int i = 0; i < answers.length; i++) {
            Due.is("the " + i + "th", answers[i], -1);
        }
        Due.noLed("led(3, 0)", x, 3, 0);
        Due.yes("nothing has changed: " + state, state.equals(state(x)));
        Due.yes("plan()'s goes", x.undo());
        Due.no("no other does", x.undo());
    }

    private static void asksChangeNothing() {
        Due.sentence("calls that ask change nothing");
        for (int call = 3; call <= 25; call++) {
            if (call == 6) {
                continue; // read()
            }
            HillTap x = Due.told(FULL);
            x.plan(20, 30);
            x.read(1, 4, 20, 9);
            String state = state(x);
            refusable(x, call);
            Due.yes("call " + call + ": " + state, state.equals(state(x)));
        }
    }

    private static void theFirstReasonCounts() {
        Due.sentence("of several reasons the one that the promise names first");
        HillTap none = new HillTap();
        Due.refused("plan: 1 ahead of 2", none, none.plan(-1, -1), 1);
        Due.refused("read: 1 ahead of 2", none, none.read(0, 0, -1, -1), 1);
        Due.refused("fooled: 1 ahead of 2", none, none.fooled(-1), 1);
        Due.refused("span: 1 ahead of 2", none, none.span(0, 0, 0, 21, true), 1);
        Due.refused("found: 1 ahead of 2", none, none.found(0, -1), 1);
        Due.refused("tell: 1 ahead of 2", none, none.tell(0, -1), 1);
        Due.refused("bore: 1 ahead of 6", none, none.bore(), 1);
        HillTap x = Due.told(FULL);
        for (int i = 0; i < 24; i++) {
            x.read(0, 0, 99, 0);
        }
        Due.refused("read: 1 ahead of 3", x, x.read(2, 0, 0, 0), 1);
        Due.refused("read: 2 ahead of 3", x, x.read(0, 0, 0, 1000), 2);
        Due.refused("read: 3", x, x.read(0, 0, 0, 0), 3);
        Due.refused("tell: 1 ahead of 6", x, x.tell(2, 0), 1);
        Due.refused("tell: 2 ahead of 6", x, x.tell(0, -1), 2);
        Due.refused("tell: 6", x, x.tell(0, 0), 6);
        while (x.size(1) < 16) {
            x.plan(0, 0);
        }
        Due.refused("plan: 2 ahead of 3", x, x.plan(60, 0), 2);
        Due.refused("plan: 3", x, x.plan(0, 0), 3);
    }

    private static void wrongNumbersFarOff() {
        Due.sentence("wrong numbers, as far off as they can be");
        for (int n : WRONG) {
            HillTap x = Due.told(FULL);
            Due.refused("level", x, x.level(n), 1);
            Due.refused("plan", x, x.plan(n, 0), 2);
            Due.refused("peg", x, x.peg(n, 0, 0, 0), 1);
            Due.refused("peg", x, x.peg(0, n, 0, 0), 1);
            Due.refused("peg", x, x.peg(0, 0, n, 0), 1);
            Due.refused("peg", x, x.peg(0, 0, 0, n), 1);
            Due.refused("peg", x, x.peg(n, n, n, n), 1);
            Due.refused("gone", x, x.gone(n), 1);
            Due.refused("wave", x, x.wave(n), 1);
            Due.refused("read", x, x.read(n, 0, 0, 0), 1);
            Due.refused("read", x, x.read(0, n, 0, 0), 1);
            Due.refused("fit", x, x.fit(n), 1);
            Due.refused("weight", x, x.weight(n), 1);
            Due.refused("tap", x, x.tap(n), 1);
            Due.refused("nought", x, x.nought(n, 0, 0), 1);
            Due.refused("nought", x, x.nought(0, n, 0), 1);
            Due.refused("nought", x, x.nought(0, 0, n), 1);
            Due.refused("span", x, x.span(n, 0, 0, 0, false), 1);
            Due.refused("span", x, x.span(0, n, 0, 0, false), 1);
            Due.refused("span", x, x.span(0, 0, n, 0, false), 1);
            Due.refused("span", x, x.span(0, 0, 0, n, false), 2);
            Due.refused("helps", x, x.helps(n, 0), 1);
            Due.refused("helps", x, x.helps(0, n), 1);
            Due.refused("last", x, x.last(n), 1);
            Due.refused("safe", x, x.safe(n), 1);
            Due.refused("found", x, x.found(n, 0), 1);
            Due.refused("found", x, x.found(0, n), 2);
            Due.refused("struck", x, x.struck(n, 0), 1);
            Due.refused("struck", x, x.struck(0, n), 1);
            Due.refused("dead", x, x.dead(n, 0), 1);
            Due.refused("dead", x, x.dead(0, n), 1);
            Due.refused("tell", x, x.tell(n, 0), 1);
            Due.refused("part", x, x.part(n, 0, 0), 1);
            Due.refused("part", x, x.part(2, n, 0), 1);
            Due.refused("part", x, x.part(2, 0, n), 1);
            Due.refused("knew", x, x.knew(n), 1);
            Due.noLed("led", x, n, 0);
            Due.noLed("led", x, 0, n);
            Due.is("size", x.size(n), -1);
            Due.refused("hill", x, x.hill(n), 2);
            Due.is("feed of any number", x.feed(n, n, n, n, n), 20);
        }
    }

    private static void objectsAreApart() {
        Due.sentence("each object has a HILL of its own");
        HillTap x = Due.told(FULL);
        HillTap y = new HillTap();
        Due.refused("the other has none", y, y.level(0), 1);
        Due.is("the one's TROUBLE", x.trouble(), 0);
        y.feed(0, 0, 0, 0, 0);
        Due.is("the one's TAPE", x.size(7), 0);
        Due.hill(y, FULL.replace("stands 20", "stands 30"));
        x.plan(0, 0);
        y.read(0, 0, 0, 0);
        Due.is("the one's READ", x.size(6), 0);
        Due.no("the other's plan", y.undo());
    }

    private static void call512() {
        Due.sentence("an object is used for at most 512 calls");
        HillTap x = new HillTap();
        int calls = 0;
        while (calls < 45) {
            x.feed(0x20202020, 0x20202020, 0x20202020, 0x20202020, 0x20202020);
            calls++;
        }
        x.hill(900);
        calls++;
        int[] numbers = Due.numbers(FULL);
        for (int i = 0; i < numbers.length; i += 5) {
            x.feed(numbers[i], numbers[i + 1], numbers[i + 2], numbers[i + 3], numbers[i + 4]);
            calls++;
        }
        Due.is("hill()", x.hill(FULL.length()), 3);
        calls++;
        int first = x.safe(0);
        int levels = x.level(8);
        calls += 2;
        while (calls < 508) {
            x.plan(8, 50);
            x.read(0, 59, 0, 999);
            x.undo();
            x.forget();
            calls += 4;
        }
        while (calls < 510) {
            x.last(2);
            calls++;
        }
        Due.is("the 511th call", x.safe(0), first);
        Due.is("the 512th call", x.level(8), levels);
    }
}
