/** For each promise the answers due by hand: ordinary calls, the edges that the document names, wrong inputs. */
public final class PromisesTest {
    private static final String LAKE = "lake stands 0 moves 10 to 100;";
    private static final String PEG = "peg p push 15 bed 10;";
    private static final String SIX = LAKE + PEG + "from 0 level 40;from 4 level 20;rain 2 much 20;"
        + "story a weighs 2 creep 50;story b weighs 3 new 99;story c weighs 4 pressed 50 late 2;"
        + "story d weighs 5 weak 50 after 4;story e weighs 6 quick 50 above 2;story f weighs 7 rains 1;"
        + "village v high 1 people 9 needs 3;knower k of p reads 5";
    /** GONE on DAY 2 with SPEEDS 100 and 50 and LEVEL 10, WAVE 15, by the first STORY; never by the second. */
    private static final String SLIDES = "lake stands 0 moves 10 to 10;from 2 level 10;"
        + "peg p push 999 bed 0;peg q push 500 bed 0;story a weighs 3 creep 10;story b weighs 5 creep 0;"
        + "village u high 15 people 7 needs 0;village v high 16 people 20 needs 0;"
        + "village w high 0 people 100 needs 3;village x high 0 people 900 needs 1";

    private PromisesTest() {
    }

    public static void main(String[] args) {
        promise1();
        promise2();
        promise3();
        promises4And5();
        promise6();
        promise7();
        promise8();
        promise9();
        promise9Kinds();
        promise10();
        promise11();
        promise12();
        promise13();
        promises14And15();
        promise16();
        promise17();
        promise18();
        promise19();
        promise20();
        promise21();
        promise22();
        promise23();
        promise24();
        promise25();
        promise26();
        promise27();
        promise28();
        promise29();
        promise30();
        promise31();
        promise32();
        promise33();
        promise34();
        promise35();
        Due.end();
    }

    private static void row(String what, HillTap x, int story, int peg, int kind, int... due) {
        for (int day = 0; day < due.length; day++) {
            Due.answered(what + " of DAY " + day, x, x.peg(story, peg, day, kind), due[day]);
        }
    }

    private static void levels(String what, HillTap x, int... due) {
        for (int day = 0; day < due.length; day++) {
            Due.answered(what + ", LEVEL of DAY " + day, x, x.level(day), due[day]);
        }
    }

    private static void promise1() {
        HillTap x = new HillTap();
        Due.is("NONE", HillTap.NONE, -1);
        Due.is("new: trouble()", x.trouble(), 0);
        Due.is("new: fault()", x.fault(), 0);
        Due.is("new: where()", x.where(), -1);
        for (int what = 0; what < 10; what++) {
            Due.is("new: size(" + what + ")", x.size(what), 0);
        }
        Due.refused("new: level(0)", x, x.level(0), 1);
        Due.refused("new: gone(0)", x, x.gone(0), 1);
        Due.refused("new: peg(0, 0, 0, 0)", x, x.peg(0, 0, 0, 0), 1);
        Due.refused("new: safe(0)", x, x.safe(0), 1);
        Due.is("new: forget()", x.forget(), 0);
    }

    private static void promise2() {
        HillTap x = new HillTap();
        x.undo();
        for (int i = 1; i <= 45; i++) {
            Due.is("feed the " + i + "-th", x.feed(-1, 0, 0x20202020, Integer.MIN_VALUE, Integer.MAX_VALUE), 20 * i);
        }
        Due.is("feed the 46th", x.feed(0, 0, 0, 0, 0), -1);
        Due.is("feed leaves TROUBLE as it is", x.trouble(), 6);
        Due.is("900 bytes stay", x.size(7), 900);
        HillTap y = new HillTap();
        Due.is("feed of lake and a byte 255", y.feed(0x6c616b65, 0x20ff2020, 0, 0, 0), 20);
        y.hill(20);
        Due.is("the highest byte comes first", y.where(), 5);
        Due.is("feed of «lake stands 5 moves »", y.feed(0x6c616b65, 0x20737461, 0x6e647320, 0x35206d6f, 0x76657320), 20);
        y.feed(0x3020746f, 0x20392020, 0, 0, 0);
        y.hill(40);
        Due.is("lake stands 5 moves 0: fault()", y.fault(), 4);
        Due.is("lake stands 5 moves 0: where()", y.where(), 20);
    }

    private static void promise3() {
        HillTap x = new HillTap();
        Due.feed(x, SIX);
        Due.refused("hill(-1)", x, x.hill(-1), 2);
        Due.refused("hill of one too many", x, x.hill(x.size(7) + 1), 2);
        Due.refused("hill of far too many", x, x.hill(Integer.MAX_VALUE), 2);
        Due.refused("hill of far too few", x, x.hill(Integer.MIN_VALUE), 2);
        Due.is("THE TAPE stays by 2", x.size(7), (SIX.length() + 19) / 20 * 20);
        Due.answered("hill of the whole TAPE", x, x.hill(x.size(7)), 6);
        Due.is("THE TAPE is empty", x.size(7), 0);
        x.read(0, 0, 0, 0);
        x.plan(7, 7);
        Due.refused("hill(0)", x, x.hill(0), 4);
        Due.feed(x, "lake stands 9");
        Due.refused("hill with a FAULT", x, x.hill(5), 4);
        Due.is("THE TAPE is empty by 4 too", x.size(7), 0);
        Due.is("the HILL stays by 4", x.size(3), 6);
        Due.is("READ stays by 4", x.size(6), 1);
        Due.is("the plan stays by 4", x.size(1), 3);
        Due.answered("the STORIES stay by 4", x, x.peg(4, 0, 3, 1), 3);
        Due.answered("a HILL more", x, Due.hill(x, SLIDES), 2);
        Due.is("nothing is READ", x.size(6), 0);
        Due.is("plan() told none of its froms", x.undo() ? 1 : 0, 0);
        Due.is("its own froms", x.size(1), 1);
        Due.answered("its own STORIES", x, x.gone(0), 2);
        Due.is("no rain of the one ahead", x.size(2), 0);
        Due.answered("a third", x, Due.hill(x, LAKE + PEG + "story f weighs 1 rains 9"), 1);
        row("no rain is left", x, 0, 0, 1, 0, 0, 0, 0, 0);
    }

    private static void promises4And5() {
        HillTap x = new HillTap();
        Due.refused("hill with a FAULT", x, Due.hill(x, "lake stands 501"), 4);
        Due.is("fault()", x.fault(), 4);
        Due.is("where()", x.where(), 12);
        x.feed(0, 0, 0, 0, 0);
        x.size(0);
        x.forget();
        Due.noLed("led(0, 0) without a HILL", x, 0, 0);
        Due.is("where() behind calls that aren't refused by a number", x.where(), 12);
        Due.refused("hill(21)", x, x.hill(21), 2);
        Due.is("fault() stays by 2", x.fault(), 4);
        Due.is("where() behind 2", x.where(), -1);
        x.hill(20);
        Due.is("fault() of the next", x.fault(), 1);
        Due.is("where() of the next", x.where(), 0);
        x.weight(-1);
        Due.is("where() behind a call that wasn't refused", x.where(), -1);
        Due.is("fault() stays", x.fault(), 1);
        Due.hill(x, SIX);
        Due.is("fault() without one", x.fault(), 0);
        Due.is("where() without one", x.where(), -1);
    }

    private static void promise6() {
        HillTap x = Due.told("lake stands 100 moves 10 to 125;" + PEG + "story a weighs 1 creep 0");
        levels("no from", x, 100, 100, 100);
        Due.refused("level(-1)", x, x.level(-1), 1);
        Due.refused("level(60)", x, x.level(60), 1);
        Due.answered("level(59)", x, x.level(59), 100);
        HillTap y = Due.told("lake stands 100 moves 10 to 125;" + PEG + "story a weighs 1 creep 0;"
            + "from 8 level 90;from 2 level 999;from 8 level 95;from 5 level 113");
        levels("froms", y, 100, 100, 110, 120, 125, 115, 113, 113, 103, 95, 95);
        HillTap z = Due.told("lake stands 15 moves 10 to 99;" + PEG + "story a weighs 1 creep 0;from 0 level 0");
        levels("down to 0", z, 5, 0, 0);
    }

    private static void promise7() {
        HillTap x = new HillTap();
        Due.refused("plan without a HILL", x, x.plan(60, -1), 1);
        Due.hill(x, SIX);
        Due.refused("plan(-1, 0)", x, x.plan(-1, 0), 2);
        Due.refused("plan(60, 0)", x, x.plan(60, 0), 2);
        Due.refused("plan(0, -1)", x, x.plan(0, -1), 2);
        Due.refused("plan(0, 1000)", x, x.plan(0, 1000), 2);
        Due.answered("plan(4, 999)", x, x.plan(4, 999), 3);
        levels("behind all others of its DAY", x, 10, 20, 30, 40, 50, 60, 70, 80, 90, 100, 100);
        Due.answered("plan(0, 0)", x, x.plan(0, 0), 4);
        levels("an earlier DAY told later", x, 0, 0, 0, 0, 10, 20);
        row("the STORIES go by the plan", x, 0, 0, 1, 0, 0, 0, 0, 1, 1);
        Due.answered("plan(59, 0)", x, x.plan(59, 0), 5);
        for (int i = 6; i <= 16; i++) {
            Due.answered("plan the " + i + "th", x, x.plan(59, i), i);
        }
        Due.refused("plan the 17th", x, x.plan(59, 5), 3);
        Due.refused("plan the 17th, of no DAY", x, x.plan(60, 5), 2);
        Due.answered("the last of like ones", x, x.level(59), 90);
    }

    private static void promise8() {
        HillTap x = new HillTap();
        Due.is("undo without a HILL", x.undo() ? 1 : 0, 0);
        Due.is("trouble()", x.trouble(), 6);
        Due.hill(x, SIX);
        Due.is("the text's froms don't go", x.undo() ? 1 : 0, 0);
        Due.is("trouble()", x.trouble(), 6);
        x.plan(0, 0);
        x.plan(1, 5);
        levels("two told", x, 0, 5, 5, 5, 15);
        Due.is("undo", x.undo() ? 1 : 0, 1);
        Due.is("trouble()", x.trouble(), 0);
        levels("one told", x, 0, 0, 0, 0, 10, 20);
        row("and the STORIES go by it", x, 0, 0, 1, 0, 0, 0, 0, 1, 1);
        Due.is("undo", x.undo() ? 1 : 0, 1);
        levels("none told", x, 10, 20, 30, 40, 30, 20, 20);
        Due.is("undo no more", x.undo() ? 1 : 0, 0);
        Due.is("froms", x.size(1), 2);
    }

    private static void promise9() {
        HillTap x = Due.told(SIX);
        row("creep, SPEED", x, 0, 0, 1, 1, 1, 2, 2, 2, 1, 1);
        row("creep, INCHES", x, 0, 0, 0, 1, 2, 4, 6, 8, 9, 10);
        row("creep, WORN", x, 0, 0, 2, 0, 0, 0, 0, 0, 0, 0);
        row("weak, SPEED", x, 3, 0, 1, 1, 1, 2, 2, 2, 2, 2);
        row("weak, WORN", x, 3, 0, 2, 0, 0, 2, 4, 6, 8, 10, 12);
        Due.refused("STORY -1", x, x.peg(-1, 0, 0, 0), 1);
        Due.refused("STORY 6", x, x.peg(6, 0, 0, 0), 1);
        Due.refused("PEG -1", x, x.peg(0, -1, 0, 0), 1);
        Due.refused("PEG 1", x, x.peg(0, 1, 0, 0), 1);
        Due.refused("DAY -1", x, x.peg(0, 0, -1, 0), 1);
        Due.refused("DAY 60", x, x.peg(0, 0, 60, 0), 1);
        Due.refused("what -1", x, x.peg(0, 0, 0, -1), 1);
        Due.refused("what 3", x, x.peg(0, 0, 0, 3), 1);
    }

    private static void promise9Kinds() {
        HillTap rise = Due.told("lake stands 50 moves 30 to 100;from 0 level 0;from 3 level 100;peg p push 105 bed 50;"
            + "story a weighs 1 new 50");
        row("new, stands counts too", rise, 0, 0, 1, 5, 5, 5, 5, 6, 7, 6, 5);
        HillTap mean = Due.told("lake stands 0 moves 7 to 100;from 0 level 100;peg p push 100 bed 0;"
            + "story a weighs 1 pressed 99 late 3;story b weighs 1 pressed 99 late 1");
        row("pressed, the mean downwards", mean, 0, 0, 1, 10, 10, 11, 12);
        row("pressed, of this DAY alone", mean, 1, 0, 1, 10, 11, 12, 12, 13);
        HillTap weak = Due.told(LAKE + "peg p push 29 bed 3;story a weighs 1 weak 0 after 4");
        row("weak, SPEED, RESIST 0 at least", weak, 0, 0, 1, 2, 2, 2, 2, 2, 2);
        row("weak, WORN from after's on", weak, 0, 0, 2, 0, 2, 4, 6, 8, 10);
        HillTap never = Due.told(LAKE + "peg p push 29 bed 3;story a weighs 1 weak 0 after 5");
        row("weak, WORN from after's on", never, 0, 0, 2, 0, 0, 2, 4);
        HillTap quick = Due.told("lake stands 0 moves 50 to 500;from 0 level 500;peg p push 30 bed 10;peg q push 0 bed 10;"
            + "story a weighs 1 quick 10 above 3");
        row("quick, once SPEED is above's", quick, 0, 0, 1, 2, 3, 4, 5, 5, 6);
        row("quick, each PEG by its own SPEED", quick, 0, 1, 1, 0, 0, 0, 1, 1, 2, 2, 3, 4);
        HillTap rains = Due.told(LAKE + "peg p push 10 bed 30;rain 1 much 3;rain 1 much 2;rain 4 much 1;story a weighs 1 rains 10");
        row("rains, of five DAYS", rains, 0, 0, 1, 0, 3, 3, 3, 4, 4, 0, 0, 0, 0);
        HillTap ends = Due.told(LAKE + "peg p push 0 bed 0;rain 0 much 1;rain 59 much 2;story a weighs 1 rains 10");
        row("rains, of DAY 0", ends, 0, 0, 1, 1, 1, 1, 1, 1, 0);
        Due.answered("rains, of DAY 59", ends, ends.peg(0, 0, 59, 1), 2);
        HillTap held = Due.told(LAKE + "peg p push 0 bed 999;story a weighs 1 creep 99");
        Due.answered("SPEED 0 at least", held, held.peg(0, 0, 59, 0), 0);
        HillTap slides = Due.told(SLIDES);
        row("up to GONE", slides, 0, 0, 1, 99, 99, 100, 0, 0);
        row("the other PEG goes on GONE's DAY too", slides, 0, 1, 1, 50, 50, 50, 0, 0);
        row("INCHES stay behind GONE", slides, 0, 0, 0, 99, 198, 298, 298, 298);
        Due.answered("INCHES of DAY 59", slides, slides.peg(0, 1, 59, 0), 150);
        HillTap weakGone = Due.told("lake stands 0 moves 10 to 10;peg p push 999 bed 1;story a weighs 1 weak 0 after 0;from 5 level 10");
        row("weak, WORN", weakGone, 0, 0, 2, 99, 198, 297);
        HillTap wornStays = Due.told("lake stands 100 moves 10 to 100;peg p push 950 bed 0;story a weighs 1 weak 50 after 0");
        row("WORN stays behind GONE", wornStays, 0, 0, 2, 100, 100, 100);
    }

    private static void promise10() {
        HillTap x = Due.told(SLIDES);
        Due.answered("GONE at SPEED 100", x, x.gone(0), 2);
        Due.answered("not GONE at SPEED 99", x, x.gone(1), -2);
        Due.refused("gone(-1)", x, x.gone(-1), 1);
        Due.refused("gone(2)", x, x.gone(2), 1);
        HillTap second = Due.told("lake stands 0 moves 10 to 10;peg q push 1 bed 0;peg p push 999 bed 0;story a weighs 1 creep 10;from 59 level 10");
        Due.answered("GONE on DAY 59, by the second PEG", second, second.gone(0), 59);
        HillTap first = Due.told("lake stands 10 moves 10 to 10;peg p push 999 bed 0;story a weighs 1 creep 10");
        Due.answered("GONE on DAY 0", first, first.gone(0), 0);
    }

    private static void promise11() {
        HillTap x = Due.told(SLIDES);
        Due.answered("WAVE, all SPEEDS", x, x.wave(0), 15);
        Due.answered("WAVE if it isn't GONE", x, x.wave(1), 0);
        Due.refused("wave(2)", x, x.wave(2), 1);
        Due.refused("wave(-1)", x, x.wave(-1), 1);
        HillTap down = Due.told("lake stands 19 moves 10 to 19;peg p push 999 bed 0;peg q push 30 bed 0;story a weighs 1 creep 10");
        Due.answered("WAVE downwards", down, down.wave(0), 103 * 19 / 100);
    }

    private static void promise12() {
        HillTap x = new HillTap();
        Due.refused("read without a HILL", x, x.read(0, 0, -1, -1), 1);
        Due.hill(x, SIX);
        Due.refused("PEG -1", x, x.read(-1, 0, 0, 0), 1);
        Due.refused("PEG 1", x, x.read(1, 0, 0, 0), 1);
        Due.refused("DAY -1", x, x.read(0, -1, 0, 0), 1);
        Due.refused("DAY 60, and INCHES -1", x, x.read(0, 60, -1, 0), 1);
        Due.refused("INCHES -1", x, x.read(0, 0, -1, 0), 2);
        Due.refused("INCHES 100,000", x, x.read(0, 0, 100000, 0), 2);
        Due.refused("off -1", x, x.read(0, 0, 0, -1), 2);
        Due.refused("off 1,000", x, x.read(0, 0, 0, 1000), 2);
        Due.is("nothing is READ", x.size(6), 0);
        Due.answered("the least", x, x.read(0, 0, 0, 0), 1);
        Due.answered("the most", x, x.read(0, 59, 99999, 999), 2);
        for (int i = 3; i <= 24; i++) {
            Due.answered("read the " + i + "th", x, x.read(0, 5, 5, 5), i);
        }
        Due.refused("read the 25th", x, x.read(0, 5, 5, 5), 3);
        Due.refused("read the 25th, of a wrong number", x, x.read(0, 5, 5, 1000), 2);
        Due.refused("read the 25th, of no PEG", x, x.read(1, 5, 5, 5), 1);
    }

    private static void promise13() {
        HillTap x = Due.told(SIX);
        x.read(0, 0, 99, 0);
        x.read(0, 0, 99, 0);
        x.undo();
        Due.is("forget", x.forget(), 2);
        Due.is("forget leaves TROUBLE as it is", x.trouble(), 6);
        Due.is("forget again", x.forget(), 0);
        Due.answered("all fit again", x, x.fits(), 6);
        Due.answered("room again", x, x.read(0, 0, 0, 0), 1);
    }

    private static void promises14And15() {
        HillTap x = new HillTap();
        Due.refused("fits without a HILL", x, x.fits(), 1);
        Due.refused("fit without a HILL", x, x.fit(0), 1);
        Due.hill(x, SIX);
        Due.answered("all fit", x, x.fits(), 6);
        Due.answered("fit(5)", x, x.fit(5), 5);
        Due.refused("fit(6)", x, x.fit(6), 1);
        // DAY 6: a 10, b 4, c 9, d 12, e 14, f 10
        x.read(0, 6, 11, 1);
        Due.answered("off by 1, either way", x, x.fits(), 3);
        Due.answered("fit(0)", x, x.fit(0), 0);
        Due.answered("fit(1)", x, x.fit(1), 3);
        Due.answered("fit(2)", x, x.fit(2), 5);
        Due.refused("fit(3)", x, x.fit(3), 1);
        Due.refused("fit(-1)", x, x.fit(-1), 1);
        x.read(0, 6, 10, 0);
        Due.answered("all that was READ", x, x.fits(), 2);
        x.plan(0, 0);
        Due.answered("by another plan", x, x.fits(), 1);
        Due.answered("by another plan", x, x.fit(0), 5);
        x.read(0, 6, 99999, 999);
        Due.answered("none", x, x.fits(), 0);
        Due.refused("fit(0) of none", x, x.fit(0), 1);
        HillTap two = Due.told(SLIDES);
        two.read(1, 2, 150, 0);
        Due.answered("the second PEG", two, two.fits(), 2);
        two.read(0, 2, 298, 0);
        Due.answered("the first PEG", two, two.fits(), 1);
    }

    private static void promise16() {
        HillTap x = new HillTap();
        Due.answered("weight(NONE) without a HILL", x, x.weight(-1), 0);
        Due.refused("weight(0) without a HILL", x, x.weight(0), 1);
        Due.hill(x, SIX);
        Due.answered("weight(NONE)", x, x.weight(HillTap.NONE), 27);
        x.read(0, 6, 10, 0);
        Due.answered("WEIGHT of FITS", x, x.weight(-1), 9);
        Due.answered("of one that fits", x, x.weight(5), 7);
        Due.answered("of one that doesn't", x, x.weight(4), 0);
        Due.refused("weight(6)", x, x.weight(6), 1);
        Due.refused("weight(-2)", x, x.weight(-2), 1);
        x.read(0, 6, 11, 0);
        Due.answered("WEIGHT of none", x, x.weight(-1), 0);
    }

    private static void promise17() {
        HillTap x = new HillTap();
        Due.refused("clear without a HILL", x, x.clear(), 1);
        Due.hill(x, SIX);
        Due.answered("nothing READ, six STORIES", x, x.clear(), -2);
        x.read(0, 6, 10, 0);
        Due.answered("two fit", x, x.clear(), -2);
        x.read(0, 3, 6, 0);
        Due.answered("one fits from DAY 6 on", x, x.clear(), 6);
        x.read(0, 2, 2, 0);
        // DAY 2: a 4, b 1, c 3, d 4, e 4, f 2; DAY 3: f 4
        Due.answered("f alone on DAY 2, and none on DAY 3", x, x.clear(), 2);
        x.read(0, 0, 50, 0);
        Due.answered("none from DAY 0 on", x, x.clear(), -2);
        HillTap one = Due.told(LAKE + PEG + "story a weighs 1 creep 50");
        Due.answered("one STORY alone, nothing READ", one, one.clear(), 0);
        one.read(0, 59, 999, 0);
        Due.answered("up to DAY 58 it fits", one, one.clear(), 0);
    }

    private static void promise18() {
        HillTap x = new HillTap();
        Due.refused("lettings without a HILL", x, x.lettings(), 1);
        Due.hill(x, SIX);
        Due.answered("one letting of two DAYS", x, x.lettings(), 1);
        x.plan(6, 40);
        x.plan(7, 0);
        Due.answered("two", x, x.lettings(), 2);
        x.plan(9, 10);
        x.plan(10, 0);
        Due.answered("three: from 20 to 10, 10, 0", x, x.lettings(), 3);
        HillTap first = Due.told("lake stands 50 moves 10 to 100;from 0 level 0;" + PEG + "story a weighs 1 creep 50");
        Due.answered("DAY 0 is below stands", first, first.lettings(), 1);
        first.plan(59, 999);
        first.plan(58, 999);
        first.plan(59, 0);
        Due.answered("DAY 59", first, first.lettings(), 2);
        HillTap second = Due.told("lake stands 0 moves 10 to 100;from 0 level 10;from 1 level 5;" + PEG + "story a weighs 1 creep 50");
        Due.answered("DAY 1 is below DAY 0, though not below stands", second, second.lettings(), 1);
    }

    private static void promise19() {
        HillTap x = Due.told(SIX);
        Due.answered("creep: held", x, x.tap(0), 1);
        Due.answered("weak: not held", x, x.tap(3), 0);
        Due.refused("tap(-1)", x, x.tap(-1), 1);
        Due.refused("tap(6)", x, x.tap(6), 1);
        // LEVELS 10 20 30 40 | 30 20 20 .. 20 | from 20: 60, from 30: 0, and so on.
        x.plan(20, 60);
        x.plan(30, 0);
        x.plan(40, 60);
        x.plan(50, 0);
        Due.answered("creep: three held", x, x.tap(0), 3);
        Due.answered("weak: none ahead of the first not held", x, x.tap(3), 0);
        HillTap first = Due.told("lake stands 50 moves 10 to 100;from 0 level 0;" + PEG + "story a weighs 1 creep 50");
        Due.answered("nothing is below what is ahead of DAY 0", first, first.tap(0), 0);
        HillTap late = Due.told("lake stands 100 moves 50 to 100;from 57 level 0;peg p push 0 bed 0;story a weighs 1 creep 50");
        Due.answered("DAY 59 at the latest", late, late.tap(0), 1);
        HillTap five = Due.told("lake stands 100 moves 50 to 100;from 10 level 0;from 15 level 100;peg p push 0 bed 0;story a weighs 1 creep 99");
        // SPEEDS 9 up to DAY 9, 4 0 0 0 0 on DAYS 10 to 14, 4 on DAY 15, 9 from DAY 16 on
        Due.answered("five DAYS on, not six", five, five.tap(0), 1);
        five.plan(14, 100);
        Due.answered("five DAYS on, not four", five, five.tap(0), 0);
        HillTap gone = Due.told("lake stands 10 moves 10 to 10;from 3 level 0;peg p push 900 bed 0;rain 8 much 10;story a weighs 1 rains 10;story b weighs 1 creep 99");
        Due.answered("GONE five DAYS on", gone, gone.gone(0), 8);
        Due.answered("isn't held", gone, gone.tap(0), 0);
        Due.answered("by the other it isn't slower either", gone, gone.tap(1), 0);
        HillTap behind = Due.told("lake stands 10 moves 10 to 10;from 3 level 0;peg p push 900 bed 0;peg q push 0 bed 0;rain 0 much 1;rain 9 much 10;story a weighs 1 rains 10");
        behind.plan(3, 10);
        behind.plan(4, 0);
        Due.answered("GONE on DAY 9", behind, behind.gone(0), 9);
        Due.answered("LETTING on DAY 4", behind, behind.tap(0), 0);
        HillTap then = Due.told("lake stands 500 moves 5 to 500;from 1 level 0;peg p push 700 bed 200;peg a push 0 bed 0;"
            + "peg b push 0 bed 0;peg c push 0 bed 0;peg d push 0 bed 0;story w weighs 1 weak 99 after 500;story v weighs 1 weak 99 after 900");
        // SPEEDS together 295 on DAY 0 and 106 + 4 * 46 on DAY 6
        Due.answered("GONE on the fifth DAY on", then, then.gone(0), 6);
        Due.answered("slower together, but GONE", then, then.tap(0), 0);
        Due.answered("slower together, and not GONE", then, then.tap(1), 1);
        behind.undo();
        behind.undo();
        Due.answered("LETTING on DAY 3, slower on DAY 8, GONE behind it", behind, behind.tap(0), 1);
    }

    private static void promise20() {
        HillTap x = new HillTap();
        Due.refused("fooled without a HILL", x, x.fooled(-1), 1);
        Due.hill(x, SIX);
        Due.refused("fooled(-1)", x, x.fooled(-1), 2);
        Due.answered("fooled(0)", x, x.fooled(0), 3);
        Due.answered("fooled(1), of one LETTING", x, x.fooled(1), -2);
        Due.answered("fooled of very many", x, x.fooled(Integer.MAX_VALUE), -2);
        HillTap four = Due.told("lake stands 99 moves 50 to 99;peg p push 0 bed 0;peg q push 10 bed 90;"
            + "story c weighs 1 creep 99;story w weighs 1 weak 99 after 30;"
            + "from 6 level 0;from 12 level 99;from 20 level 0;from 26 level 99;from 34 level 0;from 40 level 99");
        four.plan(48, 0);
        Due.answered("four LETTINGS", four, four.lettings(), 4);
        Due.answered("all four held", four, four.tap(0), 4);
        Due.answered("of no more LETTINGS than four", four, four.fooled(4), -2);
        Due.answered("no STORY", four, four.fooled(3), -2);
        // Rain, the lake let up and down four times: held three times and not the fourth.
        HillTap fourth = Due.told("lake stands 99 moves 50 to 99;peg p push 50 bed 0;rain 0 much 9;rain 13 much 9;rain 27 much 9;rain 53 much 9;"
            + "story c weighs 1 creep 99;story r weighs 1 rains 1;story s weighs 1 rains 2;"
            + "from 4 level 0;from 10 level 99;from 17 level 0;from 23 level 99;from 31 level 0;from 40 level 99");
        fourth.plan(48, 0);
        Due.answered("four LETTINGS", fourth, fourth.lettings(), 4);
        Due.answered("held three times and not the fourth: STORY 2", fourth, fourth.tap(2), 3);
        Due.answered("the first such", fourth, fourth.fooled(3), 2);
    }

    private static void promise21() {
        HillTap x = Due.told(SIX);
        Due.answered("SPEEDS 1 and 2", x, x.nought(0, 0, 1), 3);
        Due.answered("SPEEDS 1 and 1", x, x.nought(0, 0, 0), -2);
        Due.answered("SPEEDS 2 and 1", x, x.nought(0, 0, 4), -2);
        Due.answered("SPEEDS 0 and 2", x, x.nought(5, 0, 1), -2);
        Due.answered("SPEEDS 2 and 3", x, x.nought(4, 0, 2), 5);
        Due.answered("DAY 58", x, x.nought(0, 0, 58), -2);
        Due.refused("DAY 59", x, x.nought(0, 0, 59), 1);
        Due.refused("DAY -1", x, x.nought(0, 0, -1), 1);
        Due.refused("PEG 1", x, x.nought(0, 1, 0), 1);
        Due.refused("STORY 6", x, x.nought(6, 0, 0), 1);
        HillTap down = Due.told("lake stands 0 moves 50 to 500;from 0 level 500;peg p push 0 bed 0;story a weighs 1 creep 99");
        // SPEEDS 4 9 14
        Due.answered("downwards", down, down.nought(0, 0, 0), 1);
        Due.answered("downwards", down, down.nought(0, 0, 1), 3);
    }

    private static void promise22() {
        HillTap x = Due.told(SIX);
        Due.answered("least", x, x.span(0, 0, 1, 1, false), 2);
        Due.answered("greatest", x, x.span(0, 0, 1, 1, true), 4);
        Due.answered("off 0", x, x.span(0, 0, 1, 0, true), 3);
        Due.answered("off 0, by none", x, x.span(0, 0, 0, 0, true), -2);
        // SPEEDS 1 and 1, 20 more or less: (1, 21), 21 by 20
        Due.answered("off 20", x, x.span(0, 0, 0, 20, true), 1);
        Due.answered("off 20", x, x.span(0, 0, 0, 20, false), 1);
        // SPEEDS 2 and 1, so that both may be told by more alone
        Due.answered("SPEEDS 2 and 1, off 1", x, x.span(0, 0, 4, 1, false), 6);
        Due.answered("SPEEDS 2 and 1, off 1", x, x.span(0, 0, 4, 1, true), 6);
        Due.refused("off 21", x, x.span(0, 0, 1, 21, true), 2);
        Due.refused("off -1", x, x.span(0, 0, 1, -1, true), 2);
        Due.refused("DAY 59, off 21", x, x.span(0, 0, 59, 21, true), 1);
        Due.refused("DAY -1", x, x.span(0, 0, -1, 0, true), 1);
        Due.refused("PEG 1", x, x.span(0, 1, 0, 0, true), 1);
        Due.refused("STORY -1", x, x.span(-1, 0, 0, 0, true), 1);
        Due.answered("DAY 58, off 20", x, x.span(0, 0, 58, 20, true), 59);
        HillTap steep = Due.told("lake stands 0 moves 50 to 500;from 0 level 500;peg p push 0 bed 0;story a weighs 1 creep 99");
        // SPEEDS 4 and 9: 6 and 7 are on the flattest line, 2 and 11 on the steepest
        Due.answered("both towards each other", steep, steep.span(0, 0, 0, 2, true), 7);
        Due.answered("both away from each other", steep, steep.span(0, 0, 0, 2, false), 1);
        // SPEEDS 9 and 14: 12 and 11 are on no line, 12 and 14 on the flattest
        Due.answered("the first one more", steep, steep.span(0, 0, 1, 3, true), 8);
    }

    /** Rises by 10 a DAY; by the first STORY GONE on DAY 21 at LEVEL 220, and at no LEVEL below 213. */
    private static final String RISES = "lake stands 0 moves 10 to 300;from 0 level 300;peg p push 790 bed 0;"
        + "story a weighs 1 creep 99;story n weighs 1 creep 0;story q weighs 1 quick 99 above 99";

    private static void promise23() {
        HillTap x = Due.told(RISES);
        Due.answered("GONE", x, x.gone(0), 21);
        Due.answered("down from DAY 0", x, x.helps(0, 0), 1);
        Due.answered("down from DAY 21", x, x.helps(0, 21), 1);
        Due.answered("down from DAY 22", x, x.helps(0, 22), 0);
        Due.answered("down from DAY 59", x, x.helps(0, 59), 0);
        Due.answered("it isn't GONE anyway", x, x.helps(1, 59), 1);
        x.plan(10, 300);
        Due.answered("froms behind it don't count", x, x.helps(0, 5), 1);
        Due.refused("DAY 60", x, x.helps(0, 60), 1);
        Due.refused("DAY -1", x, x.helps(0, -1), 1);
        Due.refused("STORY 3", x, x.helps(3, 0), 1);
        Due.answered("the plan stays", x, x.level(20), 210);
        Due.answered("the STORY stays", x, x.gone(0), 21);
    }

    private static void promise24() {
        HillTap x = Due.told(RISES);
        Due.answered("last", x, x.last(0), 21);
        Due.answered("it isn't GONE anyway", x, x.last(1), 59);
        Due.refused("last(3)", x, x.last(3), 1);
        Due.refused("last(-1)", x, x.last(-1), 1);
        HillTap never = Due.told("lake stands 100 moves 10 to 300;peg p push 990 bed 0;story a weighs 1 creep 99;story b weighs 1 pressed 50 late 20");
        Due.answered("on no DAY", never, never.last(0), -2);
        HillTap first = Due.told("lake stands 20 moves 10 to 300;peg p push 990 bed 0;story a weighs 1 creep 50");
        Due.answered("DAY 0 alone", first, first.gone(0), 0);
        Due.answered("DAY 0 alone", first, first.last(0), 0);
    }

    private static void promise25() {
        HillTap rain = Due.told("lake stands 10 moves 10 to 10;peg p push 990 bed 0;rain 7 much 1;story r weighs 1 rains 10");
        Due.answered("safe: the rain falls by each GOAL", rain, rain.safe(0), -2);
        Due.answered("last: the rain falls all the same", rain, rain.last(0), -2);
        HillTap x = Due.told(RISES);
        // 99 times 212 by 100 is 209, times 213 is 210
        Due.answered("safe", x, x.safe(0), 212);
        Due.answered("to", x, x.safe(1), 300);
        Due.refused("safe(3)", x, x.safe(3), 1);
        Due.refused("safe(-1)", x, x.safe(-1), 1);
        HillTap never = Due.told("lake stands 100 moves 10 to 300;peg p push 990 bed 0;story a weighs 1 creep 99");
        Due.answered("none", never, never.safe(0), -2);
        HillTap nought = Due.told("lake stands 10 moves 10 to 300;peg p push 990 bed 0;story a weighs 1 creep 99;story b weighs 1 weak 99 after 0");
        Due.answered("99 times 10 by 100 is 9", nought, nought.safe(0), 10);
        HillTap zero = Due.told("lake stands 10 moves 10 to 300;peg p push 999 bed 0;story a weighs 1 creep 99");
        Due.answered("99 times 1 by 100 is 0", zero, zero.safe(0), 1);
        HillTap quick = Due.told("lake stands 1 moves 1 to 300;peg p push 999 bed 9;story a weighs 1 quick 99 above 99;story b weighs 1 creep 99");
        Due.answered("quick: SPEED 99 on DAY 0, then no RESIST", quick, quick.safe(0), 1);
        Due.answered("creep: RESIST stays", quick, quick.safe(1), 10);
        HillTap goal = Due.told("lake stands 10 moves 10 to 10;peg p push 999 bed 0;story a weighs 1 creep 10");
        Due.answered("0 is told for all DAYS", goal, goal.safe(0), 9);
    }

    private static void promise26() {
        HillTap x = Due.told(LAKE + PEG + "story a weighs 1 creep 50;story b weighs 1 new 7;story c weighs 1 pressed 7 late 2;"
            + "story d weighs 1 weak 50 after 4;story e weighs 1 quick 50 above 2;story f weighs 1 rains 9");
        Due.answered("creep", x, x.found(0, 50), 0);
        Due.answered("new at k", x, x.found(1, 7), 1);
        Due.answered("new below k", x, x.found(1, 0), 1);
        Due.answered("new behind k", x, x.found(1, 8), 0);
        Due.answered("pressed downwards", x, x.found(2, 4), 2);
        Due.answered("pressed at 99", x, x.found(2, 99), 69);
        Due.answered("weak at k", x, x.found(3, 50), 2);
        Due.answered("weak ahead of k", x, x.found(3, 49), 0);
        Due.answered("weak behind k", x, x.found(3, 51), 0);
        Due.answered("quick", x, x.found(4, 50), 0);
        Due.answered("rains at 5", x, x.found(5, 5), 1);
        Due.answered("rains at 6", x, x.found(5, 6), 0);
        Due.refused("depth -1", x, x.found(0, -1), 2);
        Due.refused("depth 100", x, x.found(0, 100), 2);
        Due.refused("STORY 6, depth 100", x, x.found(6, 100), 1);
        Due.refused("STORY -1", x, x.found(-1, 0), 1);
    }

    private static void promise27() {
        HillTap x = new HillTap();
        Due.refused("bore without a HILL", x, x.bore(), 1);
        Due.hill(x, SIX);
        Due.answered("all fit", x, x.bore(), 1);
        x.read(0, 6, 11, 1);
        // a 2, d 5 (weak 50), f 7: at 0 to 5 7 and 7, at 50 9 and 5, else 14
        Due.answered("a, d and f", x, x.bore(), 0);
        x.forget();
        x.read(0, 2, 4, 0);
        // a 2, d 5, e 6: at 50 8 and 5, else 13
        Due.answered("a, d and e", x, x.bore(), 50);
        x.read(0, 2, 5, 0);
        Due.refused("no FITS", x, x.bore(), 6);
        HillTap deep = Due.told(LAKE + PEG + "story a weighs 1 creep 50;story b weighs 1 weak 99 after 0");
        Due.answered("at the deepest", deep, deep.bore(), 99);
        HillTap pressed = Due.told(LAKE + PEG + "story a weighs 1 pressed 3 late 1;story b weighs 1 creep 0");
        Due.answered("the first at which 3 times it by 10 isn't 0", pressed, pressed.bore(), 4);
        HillTap alike = Due.told(LAKE + PEG + "story a weighs 9 creep 1;story b weighs 3 new 50;story c weighs 4 rains 1;story d weighs 4 new 2");
        // at 0 to 2: 9 and 11; at 3 to 5: 13 and 7; at 6 to 50: 17 and 3
        Due.answered("the greatest WEIGHT that finds alike", alike, alike.bore(), 0);
    }

    private static void promise28() {
        HillTap x = Due.told(SLIDES);
        Due.answered("high as the WAVE", x, x.struck(0, 0), 1);
        Due.answered("higher", x, x.struck(0, 1), 0);
        Due.answered("high 0", x, x.struck(0, 2), 1);
        Due.answered("it isn't GONE", x, x.struck(1, 2), 0);
        Due.refused("STORY 2", x, x.struck(2, 0), 1);
        Due.refused("STORY -1", x, x.struck(-1, 0), 1);
        Due.refused("village 4", x, x.struck(0, 4), 1);
        Due.refused("village -1", x, x.struck(0, -1), 1);
        HillTap dry = Due.told("lake stands 0 moves 10 to 10;peg p push 999 bed 0;rain 0 much 9;story a weighs 1 rains 9;"
            + "village v high 0 people 1 needs 0;village w high 1 people 1 needs 0");
        Due.answered("WAVE 0, but GONE", dry, dry.struck(0, 0), 1);
        Due.answered("WAVE 0", dry, dry.struck(0, 1), 0);
    }

    private static void promise29() {
        HillTap x = Due.told(SLIDES);
        Due.answered("needs 3 and more is behind DAY 2", x, x.dead(0, 0), 100);
        Due.answered("DAY 1 and needs 1 is DAY 2", x, x.dead(0, 1), 100);
        Due.answered("DAY 2", x, x.dead(0, 2), 1000);
        Due.answered("DAY 3", x, x.dead(0, 3), 1007);
        Due.answered("DAY 59", x, x.dead(0, 59), 1007);
        Due.answered("it isn't GONE", x, x.dead(1, 59), 0);
        Due.refused("DAY 60", x, x.dead(0, 60), 1);
        Due.refused("DAY -1", x, x.dead(0, -1), 1);
        Due.refused("STORY 2", x, x.dead(2, 0), 1);
        HillTap none = Due.told(RISES);
        Due.answered("no villages", none, none.dead(0, 59), 0);
    }

    private static void promise30() {
        HillTap x = new HillTap();
        Due.refused("tell without a HILL", x, x.tell(0, -1), 1);
        Due.hill(x, SLIDES);
        // STORY 0 weighs 3 of 8: village 0 has 7 people, 21 by 8; village 3 has 900, 2,700 by 8
        Due.answered("cost 2", x, x.tell(0, 2), 2);
        Due.answered("cost 3", x, x.tell(0, 3), -2);
        Due.answered("its needs ahead", x, x.tell(3, 337), 1);
        Due.answered("cost 338", x, x.tell(3, 338), -2);
        Due.answered("0 at least", x, x.tell(2, 0), 0);
        Due.answered("not STRUCK", x, x.tell(1, 0), -2);
        Due.answered("the greatest cost", x, x.tell(3, 999999), -2);
        Due.refused("cost -1", x, x.tell(0, -1), 2);
        Due.refused("cost 1,000,000", x, x.tell(0, 1000000), 2);
        Due.refused("village 4, cost -1", x, x.tell(4, -1), 1);
        Due.refused("village -1", x, x.tell(-1, 0), 1);
        x.read(0, 2, 298, 0);
        Due.answered("STORY 0 alone: 7 no less than 7", x, x.tell(0, 7), 2);
        Due.answered("STORY 0 alone: 7 less than 8", x, x.tell(0, 8), -2);
        x.read(0, 2, 0, 0);
        Due.refused("no FITS", x, x.tell(0, 0), 6);
        Due.refused("no FITS, cost -1", x, x.tell(0, -1), 2);
        HillTap two = Due.told(RISES + ";story s weighs 5 creep 90;village v high 0 people 8 needs 4");
        // GONE on DAYS 21 (a, q) and 23 (s): 99 times 220 by 100 is 217, 90 times 240 is 216
        Due.answered("GONE by s", two, two.gone(3), 23);
        Due.answered("in time by all", two, two.tell(0, 0), 17);
        Due.answered("7 of 8", two, two.tell(0, 7), 17);
        Due.answered("7 of 8, cost 8", two, two.tell(0, 8), -2);
        HillTap most = Due.told("lake stands 500 moves 1 to 500;peg p push 999 bed 0;village v high 0 people 999 needs 30;"
            + "story a weighs 99 creep 99;story b weighs 99 creep 99;story c weighs 99 creep 99;"
            + "story d weighs 99 creep 99;story e weighs 99 creep 99;story f weighs 99 creep 99");
        Due.answered("999 each", most, most.tell(0, 999), 0);
        Due.answered("1,000 each", most, most.tell(0, 1000), -2);
        Due.answered("999,999 each", most, most.tell(0, 999999), -2);
    }

    private static void promise31() {
        HillTap x = Due.told(SIX);
        Due.answered("by rains", x, x.part(5, 0, 6), 10);
        Due.answered("ahead of the rain", x, x.part(5, 0, 1), 0);
        Due.answered("by creep", x, x.part(0, 0, 6), 0);
        Due.refused("STORY 6", x, x.part(6, 0, 0), 1);
        Due.refused("PEG 1", x, x.part(0, 1, 0), 1);
        Due.refused("DAY 60", x, x.part(0, 0, 60), 1);
        Due.refused("DAY -1", x, x.part(5, 0, -1), 1);
        HillTap creeps = Due.told(LAKE + "peg p push 25 bed 0;rain 1 much 2;story r weighs 1 rains 10");
        // SPEEDS 2 4 4 4 4 4 2, without rain 2
        Due.answered("INCHES less those without rain", creeps, creeps.part(0, 0, 5), 10);
        Due.answered("the rain is still told", creeps, creeps.peg(0, 0, 5, 0), 22);
        HillTap gone = Due.told(LAKE + "peg p push 990 bed 0;rain 1 much 2;story r weighs 1 rains 10");
        // SPEEDS 99 101 and GONE, without rain 99 a DAY
        Due.answered("the DAY it is GONE", gone, gone.part(0, 0, 1), 2);
        Due.answered("behind it", gone, gone.part(0, 0, 2), -97);
    }

    private static void promise32() {
        HillTap x = Due.told(LAKE + "peg p push 15 bed 10;peg q push 1 bed 1;story a weighs 1 creep 1;"
            + "knower k of p reads 5;knower l of q reads 0;knower m of p reads 6");
        Due.answered("nothing READ", x, x.knew(0), -2);
        Due.answered("nothing READ, reads 0", x, x.knew(1), -2);
        x.read(0, 9, 5, 0);
        Due.answered("as many", x, x.knew(0), 9);
        Due.answered("fewer", x, x.knew(2), -2);
        x.read(0, 4, 4, 999);
        Due.answered("off doesn't count", x, x.knew(0), 9);
        x.read(0, 7, 99, 0);
        Due.answered("the first DAY, not the first READ", x, x.knew(0), 7);
        x.read(0, 8, 99, 0);
        Due.answered("nor the latest", x, x.knew(0), 7);
        Due.answered("another PEG", x, x.knew(1), -2);
        x.read(1, 0, 0, 0);
        Due.answered("its own PEG", x, x.knew(1), 0);
        Due.answered("more", x, x.knew(2), 7);
        Due.refused("knower 3", x, x.knew(3), 1);
        Due.refused("knower -1", x, x.knew(-1), 1);
        HillTap none = new HillTap();
        Due.refused("knew without a HILL", none, none.knew(0), 1);
    }

    private static void promise33() {
        HillTap x = Due.told(SIX);
        x.undo();
        Due.is("led(0, 0)", x.led(0, 0), 0);
        Due.is("led(0, 1)", x.led(0, 1), 2);
        Due.noLed("led(0, 2)", x, 0, 2);
        Due.noLed("led(0, -1)", x, 0, -1);
        Due.noLed("led(-1, 0)", x, -1, 0);
        Due.noLed("led(6, 0)", x, 6, 0);
        Due.is("led leaves TROUBLE as it is", x.trouble(), 6);
        Due.is("rains: led(5, 0)", x.led(5, 0), 2);
        HillTap two = Due.told(LAKE + "peg p push 10 bed 0;peg q push 0 bed 0;story a weighs 1 creep 99;from 3 level 100");
        // both: 1, 1, 1, then 1+0, 2+1, 3+2 .. for 9, 19, 29
        Due.is("all SPEEDS together", two.led(0, 1), 4);
        HillTap still = Due.told(LAKE + "peg p push 0 bed 0;story a weighs 1 creep 0");
        Due.noLed("no DAY at all", still, 0, 0);
        Due.noLed("without a HILL", new HillTap(), 0, 0);
    }

    private static void promise34() {
        HillTap x = Due.told("lake stands 3 moves 10 to 77;peg a push 1 bed 1;peg b push 1 bed 1;from 1 level 1;from 1 level 1;from 1 level 1;"
            + "rain 1 much 1;rain 1 much 1;rain 2 much 1;rain 2 much 1;story s weighs 1 creep 1;"
            + "village v high 1 people 1 needs 1;village w high 1 people 1 needs 1;knower k of b reads 1");
        x.read(0, 0, 0, 0);
        x.read(0, 0, 0, 0);
        x.read(0, 0, 0, 0);
        x.feed(0, 0, 0, 0, 0);
        x.plan(0, 0);
        x.undo();
        x.undo();
        int[] due = {2, 3, 4, 1, 2, 1, 3, 20, 3, 77};
        for (int what = 0; what < due.length; what++) {
            Due.is("size(" + what + ")", x.size(what), due[what]);
        }
        Due.is("size(10)", x.size(10), -1);
        Due.is("size(-1)", x.size(-1), -1);
        Due.is("size leaves TROUBLE as it is", x.trouble(), 6);
        x.plan(0, 0);
        Due.is("froms of plan() too", x.size(1), 4);
    }

    private static void promise35() {
        HillTap x = Due.told(SIX);
        Due.is("behind hill", x.trouble(), 0);
        x.level(60);
        Due.is("refused by 1", x.trouble(), 1);
        Due.is("trouble() leaves it as it is", x.trouble(), 1);
        x.fault();
        x.where();
        Due.is("fault() and where() too", x.trouble(), 1);
        x.level(0);
        Due.is("the latest wasn't refused", x.trouble(), 0);
        x.found(0, 100);
        Due.is("refused by 2", x.trouble(), 2);
        x.clear();
        Due.is("-2 isn't refused", x.trouble(), 0);
    }
}
