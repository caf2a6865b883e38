/**
 * The boundary cases of Terms III (READ, FITS, LETTINGS, NOUGHT, DOWN, SAFE, BORE, STRUCK, DEAD, TELL) and of
 * promises 12 to 33: a test of its own for each sentence that names one, told by Due.sentence().
 */
public final class StoriesEdgesTest {
    /** PEG p creeps by 1, 2, 3 a DAY by the three STORIES, PEG q by 2, 3, 4. */
    private static final String THREE = "lake stands 100 moves 10 to 100;peg p push 0 bed 0;peg q push 10 bed 0;"
        + "story a weighs 1 creep 10;story b weighs 2 creep 20;story c weighs 4 creep 30";
    /** SPEED 9 at LEVEL 100, 4 at 50, 0 at 0. */
    private static final String TAP = "lake stands 100 moves 50 to 100;peg p push 0 bed 0;story s weighs 1 creep 99";
    /** SPEEDS 0 1 3 10 10 10 9 7 0. */
    private static final String LINE = "lake stands 0 moves 1 to 1;peg p push 0 bed 0;rain 1 much 10;rain 2 much 20;rain 3 much 70;story r weighs 1 rains 1";
    /** Rises by 10 a DAY; by the first STORY GONE on DAY 21 at LEVEL 220, and at no LEVEL below 213. */
    private static final String RISES = "lake stands 0 moves 10 to 300;from 0 level 300;peg p push 790 bed 0;"
        + "story a weighs 1 creep 99;story n weighs 1 creep 0";
    /** By the first STORY GONE on DAY 2 with SPEEDS 100 and 50 and LEVEL 10, WAVE 15; never by the second. */
    private static final String SLIDES = "lake stands 0 moves 10 to 10;from 2 level 10;peg p push 999 bed 0;peg q push 500 bed 0;"
        + "story a weighs 3 creep 10;story b weighs 5 creep 0";
    private static final int[] FAR = {Integer.MIN_VALUE, -2, -1, Integer.MAX_VALUE};

    private StoriesEdgesTest() {
    }

    public static void main(String[] args) {
        readUpTo24();
        readRefused();
        forget();
        howFarOff();
        agreeWithAll();
        fitsRefused();
        fitRefused();
        weightOfFits();
        clearUpToADay();
        clearRefused();
        lettingsRefused();
        lettingsBelowTheDayAhead();
        lettingsNotBelowItsOwn();
        lettingsOfDay0And59();
        heldFiveDaysOn();
        heldDay59AtTheLatest();
        heldTogether();
        heldNotGoneByThen();
        tapFromTheFirstOn();
        fooled();
        fooledRefused();
        noughtTold();
        noughtDownwards();
        noughtRefused();
        spanOfBoth();
        spanByNone();
        spanRefused();
        downFromADay();
        helpsRefused();
        lastDay();
        safe();
        safeRefused();
        foundByEach();
        foundRefused();
        boreTheFirstSuch();
        boreRefused();
        struck();
        dead();
        tellNoLess();
        tellInTime();
        tellRefused();
        part();
        partRefused();
        knew();
        knewRefused();
        led();
        ledThrows();
        Due.end();
    }

    // ---- READ and FITS

    private static void readUpTo24() {
        Due.sentence("III: READ, up to 24; 12: NONE: 3");
        HillTap x = Due.told(THREE);
        for (int i = 1; i <= 24; i++) {
            Due.answered("the " + i + "th", x, x.read(0, 0, 1, 0), i);
        }
        Due.refused("the 25th", x, x.read(0, 0, 99, 0), 3);
        Due.is("24", x.size(6), 24);
        Due.answered("the 25th isn't READ", x, x.fits(), 1);
        Due.refused("of the 25th a number", x, x.read(0, 0, -1, 0), 2);
        Due.refused("of the 25th a PEG", x, x.read(2, 0, -1, 0), 1);
        x.forget();
        for (int i = 1; i <= 24; i++) {
            Due.answered("room again, the " + i + "th", x, x.read(0, 0, i == 24 ? 2 : 1, 1), i);
        }
        Due.answered("the 24th is READ: c is off by 1", x, x.weight(-1), 3);
    }

    private static void readRefused() {
        Due.sentence("12: read: NONE: 1 (PEG, DAY); 2 (INCHES 0 .. 99,999, off 0 .. 999)");
        HillTap x = new HillTap();
        Due.refused("without a HILL", x, x.read(0, 0, 0, 0), 1);
        Due.refused("without a HILL, and no number", x, x.read(0, 0, -1, -1), 1);
        Due.hill(x, THREE);
        for (int far : FAR) {
            Due.refused("PEG " + far, x, x.read(far, 0, 0, 0), 1);
            Due.refused("DAY " + far, x, x.read(0, far, 0, 0), 1);
            Due.refused("INCHES " + far, x, x.read(0, 0, far, 0), 2);
            Due.refused("off " + far, x, x.read(0, 0, 0, far), 2);
        }
        Due.refused("PEG 2", x, x.read(2, 0, 0, 0), 1);
        Due.refused("DAY 60", x, x.read(0, 60, 0, 0), 1);
        Due.refused("DAY 60, and INCHES 100,000", x, x.read(0, 60, 100000, 0), 1);
        Due.refused("INCHES 100,000", x, x.read(0, 0, 100000, 0), 2);
        Due.refused("off 1,000", x, x.read(0, 0, 0, 1000), 2);
        Due.is("none of them is READ", x.size(6), 0);
        Due.answered("the least", x, x.read(0, 0, 0, 0), 1);
        Due.answered("the most", x, x.read(1, 59, 99999, 999), 2);
    }

    private static void forget() {
        Due.sentence("13: forget: nothing is READ any more: how many there were");
        HillTap x = new HillTap();
        Due.is("without a HILL", x.forget(), 0);
        Due.hill(x, THREE);
        Due.is("nothing READ", x.forget(), 0);
        x.read(0, 0, 99, 0);
        Due.answered("none fit", x, x.fits(), 0);
        Due.is("one", x.forget(), 1);
        Due.is("none any more", x.forget(), 0);
        Due.is("size(6)", x.size(6), 0);
        Due.answered("all fit", x, x.fits(), 3);
        for (int i = 0; i < 24; i++) {
            x.read(0, 0, 99, 0);
        }
        Due.is("all", x.forget(), 24);
    }

    private static void howFarOff() {
        Due.sentence("III: READ: and how far they may be off");
        HillTap x = Due.told(THREE);
        int[][] rows = {{20, 10, 3}, {20, 9, 1}, {20, 0, 1}, {21, 0, 0}, {19, 0, 0}, {15, 5, 2}, {15, 4, 0}, {25, 5, 2}, {10, 0, 1}, {11, 1, 1},
            {9, 1, 1}, {9, 0, 0}, {0, 9, 0}, {0, 10, 1}, {0, 999, 3}, {999, 999, 3}, {1029, 999, 1}, {1030, 999, 0}, {99999, 999, 0}};
        for (int[] row : rows) {
            x.read(0, 9, row[0], row[1]);
            Due.answered(row[0] + " INCHES, off " + row[1] + ", by STORIES of 10, 20, 30", x, x.fits(), row[2]);
            x.forget();
        }
        x.read(0, 0, 1, 0);
        Due.answered("DAY 0", x, x.fit(0), 0);
        x.forget();
        x.read(1, 59, 240, 0);
        Due.answered("the last PEG's DAY 59", x, x.fit(0), 2);
        Due.answered("the last PEG's DAY 59", x, x.fits(), 1);
        Due.answered("the last PEG's DAY 59", x, x.weight(-1), 4);
    }

    private static void agreeWithAll() {
        Due.sentence("III: FITS: STORIES that agree with all");
        HillTap x = Due.told(THREE);
        Due.answered("nothing READ", x, x.fits(), 3);
        x.read(0, 9, 15, 5);
        Due.answered("a, b", x, x.fits(), 2);
        x.read(1, 9, 35, 5);
        Due.answered("b", x, x.fits(), 1);
        Due.answered("b", x, x.fit(0), 1);
        x.read(0, 0, 1, 0);
        Due.answered("none", x, x.fits(), 0);
        x.forget();
        x.read(0, 0, 1, 0);
        x.read(0, 0, 2, 0);
        Due.answered("two of one DAY that don't agree", x, x.fits(), 0);
    }

    private static void fitsRefused() {
        Due.sentence("14: fits: NONE: 1 (no HILL)");
        HillTap x = new HillTap();
        Due.refused("no HILL", x, x.fits(), 1);
        Due.hill(x, THREE);
        x.read(0, 0, 9, 0);
        Due.answered("0 is no refusal", x, x.fits(), 0);
    }

    private static void fitRefused() {
        Due.sentence("15: fit: the i-th of FITS. NONE: 1");
        HillTap x = new HillTap();
        Due.refused("no HILL", x, x.fit(0), 1);
        Due.hill(x, THREE);
        for (int far : FAR) {
            Due.refused("fit(" + far + ")", x, x.fit(far), 1);
        }
        for (int i = 0; i < 3; i++) {
            Due.answered("fit(" + i + ")", x, x.fit(i), i);
        }
        Due.refused("fit(3)", x, x.fit(3), 1);
        x.read(0, 9, 25, 5);
        Due.answered("b", x, x.fit(0), 1);
        Due.answered("c", x, x.fit(1), 2);
        Due.refused("behind them", x, x.fit(2), 1);
        x.read(0, 0, 99, 0);
        Due.refused("of none", x, x.fit(0), 1);
    }

    private static void weightOfFits() {
        Due.sentence("16: weight: WEIGHT of FITS, or its own (0 if it doesn't fit). NONE: 1 (no STORY, and not NONE)");
        HillTap x = new HillTap();
        Due.answered("NONE without a HILL", x, x.weight(HillTap.NONE), 0);
        Due.refused("0 without a HILL", x, x.weight(0), 1);
        Due.hill(x, THREE);
        Due.answered("NONE", x, x.weight(HillTap.NONE), 7);
        Due.answered("the first", x, x.weight(0), 1);
        Due.answered("the last", x, x.weight(2), 4);
        Due.refused("3", x, x.weight(3), 1);
        Due.refused("-2", x, x.weight(-2), 1);
        Due.refused("MIN", x, x.weight(Integer.MIN_VALUE), 1);
        Due.refused("MAX", x, x.weight(Integer.MAX_VALUE), 1);
        x.read(0, 9, 25, 5);
        Due.answered("NONE", x, x.weight(-1), 6);
        Due.answered("it doesn't fit", x, x.weight(0), 0);
        Due.answered("it fits", x, x.weight(1), 2);
        x.read(0, 0, 99, 0);
        Due.answered("none fit", x, x.weight(-1), 0);
        HillTap most = Due.told("lake stands 0 moves 1 to 1;peg p push 0 bed 0;story a weighs 99 creep 0;story b weighs 99 creep 0;"
            + "story c weighs 99 creep 0;story d weighs 99 creep 0;story e weighs 99 creep 0;story f weighs 99 creep 0");
        Due.answered("the most", most, most.weight(-1), 594);
    }

    private static void clearUpToADay() {
        Due.sentence("17: clear: the first DAY up to which what was READ (of DAYS not behind it) fits one STORY alone");
        HillTap x = Due.told(THREE);
        x.read(0, 7, 16, 0);
        Due.answered("b alone from DAY 7 on", x, x.clear(), 7);
        x.read(0, 3, 8, 4);
        Due.answered("on DAY 3 all fit", x, x.clear(), 7);
        x.read(0, 5, 9, 3);
        Due.answered("on DAY 5 a and b", x, x.clear(), 7);
        x.read(0, 9, 99, 0);
        Due.answered("on DAY 9 none, but up to DAY 7 one", x, x.clear(), 7);
        x.read(0, 6, 0, 0);
        Due.answered("on DAY 6 none", x, x.clear(), -2);
        HillTap ends = Due.told(THREE);
        ends.read(0, 59, 60, 0);
        Due.answered("DAY 59", ends, ends.clear(), 59);
        ends.read(0, 0, 1, 0);
        Due.answered("DAY 0", ends, ends.clear(), 0);
        HillTap together = Due.told(THREE);
        together.read(0, 4, 5, 0);
        together.read(0, 4, 10, 0);
        Due.answered("two of one DAY that don't agree", together, together.clear(), -2);
        HillTap both = Due.told(THREE);
        both.read(0, 9, 15, 5);
        both.read(1, 9, 35, 5);
        Due.answered("two of one DAY that agree", both, both.clear(), 9);
        HillTap one = Due.told("lake stands 0 moves 1 to 1;peg p push 0 bed 0;story a weighs 1 creep 0");
        Due.answered("one STORY, nothing READ", one, one.clear(), 0);
        one.read(0, 0, 1, 0);
        Due.answered("one STORY that doesn't fit", one, one.clear(), -2);
    }

    private static void clearRefused() {
        Due.sentence("17: clear: -2 if there is none. NONE: 1 (no HILL)");
        HillTap x = new HillTap();
        Due.refused("no HILL", x, x.clear(), 1);
        Due.hill(x, THREE);
        Due.answered("three fit", x, x.clear(), -2);
        x.read(0, 0, 99, 0);
        Due.answered("none fits", x, x.clear(), -2);
    }

    // ---- LETTINGS and TAP

    private static void lettings(String what, int due, String froms) {
        HillTap x = Due.told("lake stands 50 moves 10 to 100;peg p push 0 bed 0;story s weighs 1 creep 0" + froms);
        Due.answered(what, x, x.lettings(), due);
    }

    private static void lettingsRefused() {
        Due.sentence("18: lettings: NONE: 1 (no HILL)");
        HillTap x = new HillTap();
        Due.refused("no HILL", x, x.lettings(), 1);
        Due.hill(x, TAP);
        Due.answered("0 is no refusal", x, x.lettings(), 0);
    }

    private static void lettingsBelowTheDayAhead() {
        Due.sentence("III: LETTINGS: DAYS on which LEVEL is below that of the DAY ahead");
        lettings("still", 0, "");
        lettings("still by a from", 0, ";from 3 level 50");
        lettings("up alone", 0, ";from 3 level 100");
        lettings("by one", 1, ";from 3 level 49");
        lettings("down from what it rose to", 1, ";from 3 level 60;from 5 level 55");
        lettings("a GOAL below the one ahead, but above to", 0, ";from 3 level 999;from 20 level 500");
    }

    private static void lettingsNotBelowItsOwn() {
        Due.sentence("III: LETTINGS: and that one wasn't below its own");
        lettings("down for three DAYS", 1, ";from 5 level 20");
        lettings("down, still, down", 2, ";from 5 level 40;from 7 level 30");
        lettings("down and down", 1, ";from 5 level 40;from 6 level 30");
        lettings("down, up, down", 2, ";from 5 level 40;from 6 level 50;from 7 level 40");
        lettings("up and down, four times", 4, ";from 1 level 40;from 2 level 50;from 3 level 40;from 4 level 50;from 5 level 40;from 6 level 50;from 7 level 40");
        HillTap all = Due.told("lake stands 500 moves 1 to 500;peg p push 0 bed 0;story s weighs 1 creep 0;from 0 level 0");
        Due.answered("down on all DAYS", all, all.lettings(), 1);
    }

    private static void lettingsOfDay0And59() {
        Due.sentence("III: LETTINGS: DAY 0 (LEVEL ahead of it is stands) and DAY 59");
        lettings("DAY 0", 1, ";from 0 level 40");
        lettings("DAY 0 and DAY 1", 1, ";from 0 level 30");
        lettings("DAY 1 alone", 1, ";from 1 level 40");
        lettings("DAY 1, up on DAY 0", 1, ";from 0 level 60;from 1 level 50");
        lettings("DAY 59", 1, ";from 59 level 0");
        lettings("DAYS 0 and 59", 2, ";from 59 level 0;from 0 level 40");
        lettings("DAYS 58 and 59", 1, ";from 58 level 0");
    }

    private static void tap(String what, int due, String froms) {
        HillTap x = Due.told(TAP + froms);
        Due.answered(what, x, x.tap(0), due);
    }

    private static void heldFiveDaysOn() {
        Due.sentence("III: HELD: all SPEEDS five DAYS on are together below those of the DAY ahead of it");
        // The LETTING is on DAY 10, SPEED ahead of it 9
        tap("SPEED 4 on DAY 15, 9 on DAY 16", 1, ";from 10 level 0;from 15 level 100");
        tap("SPEED 4 on DAY 14, 9 on DAY 15: not below", 0, ";from 10 level 0;from 14 level 100");
        tap("SPEED 8 on DAY 15", 1, ";from 10 level 0;from 14 level 90");
        // SPEEDS 0 on DAY 8, 4 on DAY 9, 0 on DAY 10, 2 on DAY 15
        HillTap ahead = Due.told(TAP.replace("stands 100", "stands 0") + ";from 9 level 50;from 10 level 0;from 15 level 30");
        Due.answered("below those of DAY 9, not of DAY 8 or DAY 10", ahead, ahead.tap(0), 1);
        HillTap still = Due.told(TAP.replace("creep 99", "creep 0") + ";from 10 level 0");
        Due.answered("0 isn't below 0", still, still.tap(0), 0);
        HillTap slow = Due.told(TAP.replace("push 0", "push 10").replace("creep 99", "creep 9") + ";from 10 level 0");
        Due.answered("SPEED 1 isn't below 1", slow, slow.tap(0), 0);
    }

    private static void heldDay59AtTheLatest() {
        Due.sentence("III: HELD: (DAY 59 at the latest)");
        tap("DAY 54: SPEED 9 on DAY 59", 0, ";from 54 level 0;from 58 level 100");
        tap("DAY 54: SPEED 4 on DAY 59", 1, ";from 54 level 0;from 59 level 100");
        tap("DAY 55: SPEED 9 on DAY 59", 0, ";from 55 level 0;from 58 level 100");
        tap("DAY 55: SPEED 4 on DAY 59", 1, ";from 55 level 0;from 59 level 100");
        tap("DAY 58", 1, ";from 58 level 0");
        tap("DAY 58, up again", 0, ";from 58 level 50;from 59 level 100");
        tap("DAY 59", 1, ";from 59 level 0");
        tap("DAY 59, by too little to be slower", 0, ";from 59 level 92");
        tap("DAY 59, by enough", 1, ";from 59 level 90");
    }

    private static void heldTogether() {
        Due.sentence("III: HELD: all SPEEDS together");
        String hill = "lake stands 100 moves 50 to 100;from 1 level 0;story s weighs 1 weak 99 after 0;";
        // q: 29 on DAY 0, 37 on DAY 6; p: 9 and 0, or with a bed of 20 7 and 0
        HillTap held = Due.told(hill + "peg p push 0 bed 0;peg q push 700 bed 500");
        Due.pegs("q is faster", held, 0, 1, 1, 0, 29, 27, 25, 28, 30, 33, 37);
        Due.answered("37 is below 38", held, held.tap(0), 1);
        HillTap turned = Due.told(hill + "peg q push 700 bed 500;peg p push 0 bed 0");
        Due.answered("37 is below 38, PEGS turned", turned, turned.tap(0), 1);
        HillTap not = Due.told(hill + "peg p push 0 bed 20;peg q push 700 bed 500");
        Due.pegs("p is slower", not, 0, 0, 1, 0, 7, 3, 0, 0, 0, 0, 0);
        Due.answered("37 isn't below 36", not, not.tap(0), 0);
        HillTap notTurned = Due.told(hill + "peg q push 700 bed 500;peg p push 0 bed 20");
        Due.answered("37 isn't below 36, PEGS turned", notTurned, notTurned.tap(0), 0);
    }

    private static void heldNotGoneByThen() {
        Due.sentence("III: HELD: and it isn't GONE by then");
        String hill = "lake stands 10 moves 10 to 10;from 1 level 0;peg p push 900 bed 0;rain 0 much 1;story r weighs 1 rains 10;rain ";
        // The LETTING is on DAY 1; SPEEDS 91 on DAY 0, 90 on DAY 6
        HillTap behind = Due.told(hill + "7 much 10");
        Due.answered("GONE on DAY 7", behind, behind.gone(0), 7);
        Due.answered("GONE on DAY 7", behind, behind.tap(0), 1);
        HillTap ahead = Due.told(hill + "5 much 10");
        Due.answered("GONE on DAY 5", ahead, ahead.gone(0), 5);
        Due.answered("SPEED 0 on DAY 6, but GONE", ahead, ahead.tap(0), 0);
        HillTap then = Due.told("lake stands 500 moves 5 to 500;from 1 level 0;peg p push 700 bed 200;peg a push 0 bed 0;"
            + "peg b push 0 bed 0;peg c push 0 bed 0;peg d push 0 bed 0;story w weighs 1 weak 99 after 500;story v weighs 1 weak 99 after 900");
        Due.answered("GONE on DAY 6", then, then.gone(0), 6);
        Due.pegs("one PEG is faster", then, 0, 0, 1, 0, 99, 99, 98, 98, 97, 97, 106);
        Due.pegs("four are slower", then, 0, 1, 1, 0, 49, 49, 48, 48, 47, 47, 46);
        Due.answered("slower together on DAY 6, but GONE", then, then.tap(0), 0);
        Due.answered("slower together on DAY 6, and not GONE", then, then.tap(1), 1);
        HillTap long0 = Due.told("lake stands 10 moves 10 to 10;from 9 level 0;peg p push 900 bed 0;story r weighs 1 rains 10;rain 3 much 10");
        Due.answered("GONE long ahead of the LETTING", long0, long0.tap(0), 0);
    }

    private static void tapFromTheFirstOn() {
        Due.sentence("III: TAP: how many LETTINGS from the first on are HELD, one behind the other; 19: NONE: 1");
        tap("no LETTINGS", 0, "");
        tap("one", 1, ";from 10 level 0");
        tap("two", 2, ";from 10 level 0;from 20 level 100;from 30 level 0");
        tap("the second isn't", 1, ";from 10 level 0;from 20 level 100;from 30 level 0;from 32 level 100");
        tap("the first isn't, the second is", 0, ";from 10 level 0;from 12 level 100;from 30 level 0");
        tap("the first and the third, not the second", 1, ";from 10 level 0;from 20 level 100;from 30 level 0;from 32 level 100;from 50 level 0");
        tap("DAY 0's isn't, for all is 0 ahead of it", 0, ";from 0 level 50;from 30 level 0");
        HillTap x = new HillTap();
        Due.refused("no HILL", x, x.tap(0), 1);
        Due.hill(x, TAP);
        for (int far : FAR) {
            Due.refused("tap(" + far + ")", x, x.tap(far), 1);
        }
        Due.refused("tap(1)", x, x.tap(1), 1);
    }

    private static void fooled() {
        Due.sentence("20: fooled: the first STORY whose TAP is n, of more LETTINGS than n; -2 if there is none");
        HillTap none = Due.told(TAP);
        Due.answered("TAP 0, no LETTINGS", none, none.fooled(0), -2);
        HillTap one = Due.told(TAP + ";story t weighs 1 creep 0;story u weighs 1 creep 0;from 10 level 0");
        Due.answered("the first such", one, one.fooled(0), 1);
        Due.answered("TAP 1, of one LETTING", one, one.fooled(1), -2);
        Due.answered("none", one, one.fooled(2), -2);
        Due.answered("the most", one, one.fooled(Integer.MAX_VALUE), -2);
        HillTap two = Due.told(TAP + ";from 10 level 0;from 20 level 100;from 30 level 0;from 32 level 100");
        Due.answered("TAP 1 of two", two, two.fooled(1), 0);
        Due.answered("no STORY's TAP is 0", two, two.fooled(0), -2);
        Due.answered("TAP 1 isn't 2", two, two.fooled(2), -2);
        HillTap four = Due.told(TAP + ";from 4 level 0;from 10 level 100;from 16 level 0;from 22 level 100;from 28 level 0;from 34 level 100;from 40 level 0;from 42 level 100");
        Due.answered("held three times and not the fourth", four, four.tap(0), 3);
        Due.answered("held three times and not the fourth", four, four.fooled(3), 0);
        four.plan(42, 0);
        Due.answered("the fourth is held too", four, four.fooled(3), -2);
    }

    private static void fooledRefused() {
        Due.sentence("20: fooled: NONE: 1 (no HILL); 2 (n below 0)");
        HillTap x = new HillTap();
        Due.refused("no HILL", x, x.fooled(0), 1);
        Due.refused("no HILL, n -1", x, x.fooled(-1), 1);
        Due.hill(x, TAP + ";from 10 level 0");
        Due.refused("n -1", x, x.fooled(-1), 2);
        Due.refused("n MIN", x, x.fooled(Integer.MIN_VALUE), 2);
        Due.answered("n 0", x, x.fooled(0), -2);
    }

    // ---- NOUGHT

    private static void noughtTold() {
        Due.sentence("III: NOUGHT: b above a, a above 0; 21: -2 if it isn't told");
        HillTap x = Due.told(LINE);
        Due.pegs("SPEEDS", x, 0, 0, 1, 0, 0, 1, 3, 10, 10, 10, 9, 7, 0);
        Due.answered("a 0, b 1", x, x.nought(0, 0, 0), -2);
        Due.answered("a 1, b 3", x, x.nought(0, 0, 1), 2);
        Due.answered("a 10, b 10", x, x.nought(0, 0, 3), -2);
        Due.answered("a 10, b 9", x, x.nought(0, 0, 5), -2);
        Due.answered("a 7, b 0", x, x.nought(0, 0, 7), -2);
        Due.answered("a 0, b 0", x, x.nought(0, 0, 8), -2);
        HillTap gone = Due.told("lake stands 0 moves 1 to 1;peg p push 990 bed 0;rain 4 much 10;story r weighs 1 rains 1");
        Due.answered("up to GONE: a 99, b 100", gone, gone.nought(0, 0, 3), 103);
        Due.answered("of GONE's DAY: a 100, b 0", gone, gone.nought(0, 0, 4), -2);
    }

    private static void noughtDownwards() {
        Due.sentence("III: NOUGHT: the first one's DAY and b by (b less a), downwards");
        HillTap x = Due.told(LINE);
        Due.answered("1 and 3 by 2", x, x.nought(0, 0, 1), 2);
        Due.answered("2 and 10 by 7", x, x.nought(0, 0, 2), 3);
        HillTap last = Due.told("lake stands 0 moves 1 to 1;peg p push 980 bed 0;rain 59 much 10;story r weighs 1 rains 1");
        Due.answered("58 and 99 by 1", last, last.nought(0, 0, 58), 157);
        HillTap whole = Due.told("lake stands 0 moves 1 to 1;peg p push 10 bed 0;rain 1 much 10;story r weighs 1 rains 1");
        Due.answered("0 and 2 by 1", whole, whole.nought(0, 0, 0), 2);
    }

    private static void noughtRefused() {
        Due.sentence("21: nought: NONE: 1 (DAY 0 .. 58)");
        HillTap x = new HillTap();
        Due.refused("no HILL", x, x.nought(0, 0, 0), 1);
        Due.hill(x, LINE);
        for (int far : FAR) {
            Due.refused("STORY " + far, x, x.nought(far, 0, 0), 1);
            Due.refused("PEG " + far, x, x.nought(0, far, 0), 1);
            Due.refused("DAY " + far, x, x.nought(0, 0, far), 1);
        }
        Due.refused("STORY 1", x, x.nought(1, 0, 0), 1);
        Due.refused("PEG 1", x, x.nought(0, 1, 0), 1);
        Due.refused("DAY 59", x, x.nought(0, 0, 59), 1);
        Due.refused("DAY 60", x, x.nought(0, 0, 60), 1);
        Due.answered("DAY 58", x, x.nought(0, 0, 58), -2);
    }

    private static void spans(String what, HillTap x, int day, int off, int least, int greatest) {
        Due.answered(what + ", off " + off + ", least", x, x.span(0, 0, day, off, false), least);
        Due.answered(what + ", off " + off + ", greatest", x, x.span(0, 0, day, off, true), greatest);
    }

    private static void spanOfBoth() {
        Due.sentence("22: span: the least (or greatest) NOUGHT if each of both SPEEDS is so much less, as it is, or so much more");
        HillTap x = Due.told(LINE);
        spans("SPEEDS 1 and 3", x, 1, 0, 2, 2);
        // (1, 2) 3, (1, 3) 2, (1, 4) 2, (2, 3) 4, (2, 4) 3
        spans("SPEEDS 1 and 3", x, 1, 1, 2, 4);
        // (1, 3) 2, (1, 5) 2, (3, 5) 3
        spans("SPEEDS 1 and 3", x, 1, 2, 2, 3);
        // (1, 3) 2, (1, 23) 2, (21, 23) 12
        spans("SPEEDS 1 and 3", x, 1, 20, 2, 12);
        // (2, 9) 3, (3, 9) 3, (4, 9) 3, (2, 10) 3, (3, 10) 3, (4, 10) 3, (4, 11) 3
        spans("SPEEDS 3 and 10", x, 2, 1, 3, 3);
        // a 0 3 6, b 7 10 13: (3, 7) 3, (3, 10) 3, (3, 13) 3, (6, 7) 9, (6, 10) 4, (6, 13) 3
        spans("SPEEDS 3 and 10", x, 2, 3, 3, 9);
        // a 9 10 11, b 9 10 11: (9, 10) 13, (9, 11) 8, (10, 11) 14
        spans("SPEEDS 10 and 10", x, 3, 1, 8, 14);
        // a 0 alone isn't told: (1, 2) 2
        spans("SPEEDS 0 and 1", x, 0, 1, 2, 2);
        HillTap last = Due.told("lake stands 0 moves 1 to 1;peg p push 980 bed 0;rain 59 much 10;story r weighs 1 rains 1");
        // a 97 98 99, b 98 99 100: least (97, 100) 33, greatest (99, 100) 100
        spans("DAY 58", last, 58, 1, 91, 158);
    }

    private static void spanByNone() {
        Due.sentence("22: span: -2 if by none");
        HillTap x = Due.told(LINE);
        spans("SPEEDS 10 and 10", x, 3, 0, -2, -2);
        spans("SPEEDS 0 and 1", x, 0, 0, -2, -2);
        spans("SPEEDS 7 and 0", x, 7, 3, -2, -2);
        // (3, 4) alone
        spans("SPEEDS 7 and 0", x, 7, 4, 11, 11);
        // SPEEDS 0 and 0: (0, 20) has an a that isn't above 0, (20, 20) and (-20, 0) are on no line
        spans("SPEEDS 0 and 0", x, 8, 20, -2, -2);
        spans("SPEEDS 0 and 0", x, 58, 20, -2, -2);
    }

    private static void spanRefused() {
        Due.sentence("22: span: (0 .. 20) NONE: 1; 2");
        HillTap x = new HillTap();
        Due.refused("no HILL", x, x.span(0, 0, 0, 0, true), 1);
        Due.hill(x, LINE);
        for (int far : FAR) {
            Due.refused("STORY " + far, x, x.span(far, 0, 0, 0, true), 1);
            Due.refused("PEG " + far, x, x.span(0, far, 0, 0, true), 1);
            Due.refused("DAY " + far, x, x.span(0, 0, far, 0, true), 1);
            Due.refused("off " + far, x, x.span(0, 0, 0, far, false), 2);
        }
        Due.refused("STORY 1, off 21", x, x.span(1, 0, 0, 21, true), 1);
        Due.refused("PEG 1, off -1", x, x.span(0, 1, 0, -1, true), 1);
        Due.refused("DAY 59, off 21", x, x.span(0, 0, 59, 21, true), 1);
        Due.refused("off 21", x, x.span(0, 0, 1, 21, true), 2);
        Due.answered("off 20", x, x.span(0, 0, 1, 20, true), 12);
        Due.answered("off 0", x, x.span(0, 0, 1, 0, true), 2);
    }

    // ---- letting down

    private static void downFromADay() {
        Due.sentence("III: DOWN from a DAY: the GOAL is 0 from it on; it HELPS if the HILL isn't GONE then up to DAY 59");
        HillTap x = Due.told(RISES);
        Due.answered("GONE on DAY 21", x, x.gone(0), 21);
        Due.answered("from DAY 0", x, x.helps(0, 0), 1);
        Due.answered("from GONE's DAY", x, x.helps(0, 21), 1);
        Due.answered("from the DAY behind it", x, x.helps(0, 22), 0);
        Due.answered("from DAY 59", x, x.helps(0, 59), 0);
        Due.answered("it isn't GONE anyway", x, x.helps(1, 59), 1);
        x.plan(10, 300);
        x.plan(30, 300);
        Due.answered("froms on it and behind it count no more", x, x.helps(0, 10), 1);
        Due.answered("froms on it and behind it count no more", x, x.helps(0, 5), 1);
        HillTap last = Due.told("lake stands 10 moves 10 to 20;peg p push 990 bed 0;story a weighs 1 creep 50;from 59 level 20");
        Due.answered("GONE on DAY 59", last, last.gone(0), 59);
        Due.answered("from DAY 59", last, last.helps(0, 59), 1);
        HillTap rain = Due.told("lake stands 10 moves 10 to 20;peg p push 990 bed 0;story a weighs 1 rains 10;rain 59 much 1");
        Due.answered("GONE on DAY 59 all the same", rain, rain.helps(0, 0), 0);
        Due.answered("from DAY 59", rain, rain.helps(0, 59), 0);
        HillTap nought = Due.told("lake stands 0 moves 49 to 49;from 3 level 49;peg p push 999 bed 0;story a weighs 1 pressed 4 late 2");
        // Means 24 on DAY 3, and on DAY 4 24 by LEVEL 0, 25 by LEVEL 1, of which 4 times it by 100 is 1
        Due.answered("down to 0, not to 1", nought, nought.helps(0, 4), 1);
        Due.answered("not let down", nought, nought.helps(0, 5), 0);
        HillTap late = Due.told("lake stands 0 moves 50 to 50;from 2 level 50;peg p push 955 bed 0;story a weighs 1 pressed 99 late 1;story b weighs 1 pressed 99 late 2");
        // LEVEL 50 on DAY 2: ADD 49 by a; by b 24 on DAY 2, and 24 on DAY 3 if let down then, else 49
        Due.answered("pressed by this DAY", late, late.helps(0, 3), 0);
        Due.answered("pressed by two DAYS", late, late.helps(1, 3), 1);
        Due.answered("pressed by two DAYS", late, late.helps(1, 4), 0);
    }

    private static void helpsRefused() {
        Due.sentence("23: helps: NONE: 1");
        HillTap x = new HillTap();
        Due.refused("no HILL", x, x.helps(0, 0), 1);
        Due.hill(x, RISES);
        for (int far : FAR) {
            Due.refused("STORY " + far, x, x.helps(far, 0), 1);
            Due.refused("DAY " + far, x, x.helps(0, far), 1);
        }
        Due.refused("STORY 2", x, x.helps(2, 0), 1);
        Due.refused("DAY 60", x, x.helps(0, 60), 1);
        Due.answered("the plan is as it was", x, x.level(59), 300);
    }

    private static void lastDay() {
        Due.sentence("24: last: the last DAY from which DOWN HELPS; -2 if there is none. NONE: 1");
        HillTap x = new HillTap();
        Due.refused("no HILL", x, x.last(0), 1);
        Due.hill(x, RISES);
        Due.answered("GONE's DAY", x, x.last(0), 21);
        Due.answered("DAY 59", x, x.last(1), 59);
        for (int far : FAR) {
            Due.refused("last(" + far + ")", x, x.last(far), 1);
        }
        Due.refused("last(2)", x, x.last(2), 1);
        HillTap first = Due.told("lake stands 20 moves 10 to 20;peg p push 990 bed 0;story a weighs 1 creep 50");
        Due.answered("GONE on DAY 0", first, first.gone(0), 0);
        Due.answered("DAY 0", first, first.last(0), 0);
        HillTap none = Due.told("lake stands 30 moves 10 to 30;peg p push 990 bed 0;story a weighs 1 creep 50");
        Due.answered("none", none, none.last(0), -2);
        HillTap end = Due.told("lake stands 10 moves 10 to 20;peg p push 990 bed 0;story a weighs 1 creep 50;from 59 level 20");
        Due.answered("DAY 59, GONE on it", end, end.last(0), 59);
        HillTap ahead = Due.told("lake stands 10 moves 10 to 20;peg p push 990 bed 0;story a weighs 1 creep 50;from 58 level 20");
        Due.answered("DAY 58", ahead, ahead.last(0), 58);
        HillTap second = Due.told("lake stands 10 moves 10 to 20;peg p push 990 bed 0;story a weighs 1 creep 50;from 1 level 20");
        Due.answered("DAY 1", second, second.last(0), 1);
        for (int day = 0; day < 60; day++) {
            HillTap each = Due.told("lake stands 10 moves 10 to 20;peg p push 990 bed 0;story a weighs 1 creep 50;from " + day + " level 20");
            Due.answered("DAY " + day, each, each.last(0), day);
        }
    }

    private static void safe() {
        Due.sentence("25: safe: the greatest GOAL (0 .. to), told for all DAYS, by which it isn't GONE; -2 if there is none");
        HillTap x = Due.told(RISES);
        // 99 times 212 by 100 is 209, times 213 it is 210
        Due.answered("212", x, x.safe(0), 212);
        Due.answered("to", x, x.safe(1), 300);
        x.plan(0, 0);
        Due.answered("froms don't count", x, x.safe(0), 212);
        HillTap slow = Due.told(RISES.replace("moves 10", "moves 1"));
        Due.answered("LEVEL 60 on DAY 59: to", slow, slow.safe(0), 300);
        HillTap just = Due.told(RISES.replace("moves 10 to 300", "moves 10 to 213"));
        Due.answered("one below to", just, just.safe(0), 212);
        HillTap whole = Due.told(RISES.replace("moves 10 to 300", "moves 10 to 212"));
        Due.answered("to, just", whole, whole.safe(0), 212);
        for (int to = 1; to < 300; to++) {
            HillTap each = Due.told(RISES.replace("to 300", "to " + to));
            Due.answered("to " + to, each, each.safe(0), Math.min(to, 212));
        }
        HillTap rain = Due.told("lake stands 10 moves 10 to 20;peg p push 990 bed 0;story a weighs 1 rains 10;rain 59 much 1");
        Due.answered("it rains by all", rain, rain.safe(0), -2);
        HillTap none = Due.told("lake stands 30 moves 10 to 30;peg p push 990 bed 0;story a weighs 1 creep 50");
        Due.answered("GONE on DAY 0 by all", none, none.safe(0), -2);
        HillTap all = Due.told("lake stands 20 moves 10 to 20;peg p push 990 bed 0;story a weighs 1 creep 50");
        Due.answered("on all DAYS, DAY 0 too", all, all.safe(0), 19);
        HillTap least = Due.told("lake stands 0 moves 10 to 20;peg p push 999 bed 0;story a weighs 1 creep 99");
        // 99 times 1 by 100 is 0
        Due.answered("1", least, least.safe(0), 1);
        HillTap rises = Due.told("lake stands 0 moves 10 to 25;peg p push 991 bed 0;story a weighs 1 new 90;story b weighs 1 new 91");
        Due.answered("new: 9 by a rise of 10 is GONE, 8 by one of 9 isn't", rises, rises.safe(0), 9);
        HillTap end = Due.told("lake stands 0 moves 1 to 60;peg p push 941 bed 0;story a weighs 1 creep 99");
        // 99 times 60 by 100 is 59, on DAY 59
        Due.answered("GONE on DAY 59 alone", end, end.safe(0), 59);
    }

    private static void safeRefused() {
        Due.sentence("25: safe: NONE: 1");
        HillTap x = new HillTap();
        Due.refused("no HILL", x, x.safe(0), 1);
        Due.hill(x, RISES);
        for (int far : FAR) {
            Due.refused("safe(" + far + ")", x, x.safe(far), 1);
        }
        Due.refused("safe(2)", x, x.safe(2), 1);
        Due.answered("the plan is as it was", x, x.level(59), 300);
    }

    // ---- bores

    private static void finds(String kind, int... depthsAndDue) {
        HillTap x = Due.told("lake stands 0 moves 1 to 1;peg p push 0 bed 0;story s weighs 1 " + kind);
        for (int i = 0; i + 1 < depthsAndDue.length; i += 2) {
            Due.answered(kind + " at " + depthsAndDue[i], x, x.found(0, depthsAndDue[i]), depthsAndDue[i + 1]);
        }
    }

    private static void foundByEach() {
        Due.sentence("III: FOUND: creep, quick 0");
        finds("creep 50", 0, 0, 5, 0, 50, 0, 99, 0);
        finds("quick 50 above 50", 0, 0, 5, 0, 50, 0, 99, 0);
        Due.sentence("III: FOUND: new 1 if d is k at most");
        finds("new 50", 0, 1, 49, 1, 50, 1, 51, 0, 99, 0);
        finds("new 0", 0, 1, 1, 0);
        finds("new 99", 0, 1, 99, 1);
        Due.sentence("III: FOUND: pressed k times d by 10");
        finds("pressed 3 late 9", 0, 0, 3, 0, 4, 1, 6, 1, 7, 2, 99, 29);
        finds("pressed 99 late 9", 0, 0, 1, 9, 99, 980);
        finds("pressed 0 late 9", 0, 0, 99, 0);
        Due.sentence("III: FOUND: weak 2 if d is k");
        finds("weak 50 after 5", 0, 0, 5, 0, 49, 0, 50, 2, 51, 0, 99, 0);
        finds("weak 0 after 5", 0, 2, 1, 0);
        finds("weak 99 after 5", 98, 0, 99, 2);
        Due.sentence("III: FOUND: rains 1 if d is 5 at most");
        finds("rains 50", 0, 1, 4, 1, 5, 1, 6, 0, 50, 0, 99, 0);
        finds("rains 0", 0, 1, 5, 1, 6, 0);
    }

    private static void foundRefused() {
        Due.sentence("26: found: NONE: 1; 2 (the depth)");
        HillTap x = new HillTap();
        Due.refused("no HILL", x, x.found(0, 0), 1);
        Due.refused("no HILL, depth 100", x, x.found(0, 100), 1);
        Due.hill(x, THREE);
        for (int far : FAR) {
            Due.refused("STORY " + far, x, x.found(far, 0), 1);
            Due.refused("depth " + far, x, x.found(0, far), 2);
        }
        Due.refused("STORY 3, depth 100", x, x.found(3, 100), 1);
        Due.refused("depth 100", x, x.found(2, 100), 2);
        Due.answered("depth 99", x, x.found(2, 99), 0);
        Due.answered("depth 0", x, x.found(2, 0), 0);
    }

    private static void bores(String what, int due, String... kinds) {
        StringBuilder b = new StringBuilder("lake stands 0 moves 1 to 1;peg p push 0 bed 0");
        for (int i = 0; i < kinds.length; i++) {
            b.append(";story ").append((char) ('a' + i)).append(" weighs ").append(kinds[i]);
        }
        HillTap x = Due.told(b.toString());
        Due.answered(what, x, x.bore(), due);
    }

    private static void boreTheFirstSuch() {
        Due.sentence("III: BORE: the depth at which the greatest WEIGHT of FITS that find alike is least, the first such");
        bores("one STORY: all depths are alike", 0, "1 weak 50 after 5");
        bores("two that always find alike", 0, "1 creep 50", "1 quick 50 above 5");
        bores("depth 0 alone", 0, "1 creep 50", "1 new 0");
        bores("depth 1 alone", 1, "1 creep 50", "1 weak 1 after 5");
        bores("depths 0 and 5", 0, "1 creep 50", "1 weak 0 after 5", "1 weak 5 after 5");
        bores("depths 5 and 50", 5, "1 creep 50", "1 weak 50 after 5", "1 weak 5 after 5");
        bores("the first STORY's WEIGHT alone is the greatest", 10, "9 creep 1", "1 new 99", "1 pressed 1 late 5");
        bores("depth 99 alone", 99, "1 creep 50", "1 weak 99 after 5");
        bores("rains and new find alike up to 5", 6, "1 rains 5", "1 new 99");
        bores("0 by 10 up to 9", 10, "1 creep 5", "1 pressed 1 late 5");
        bores("pressed and weak find 2 alike at 20, but apart ahead of it", 10, "1 pressed 1 late 5", "1 weak 20 after 5");
        bores("pressed finds 1 as new does at 10 to 19", 0, "1 pressed 1 late 5", "1 new 19");
        // at 0 to 2 9 and 11, at 3 to 5 13 and 7, behind them 17 and 3
        bores("the WEIGHT, not how many", 0, "9 creep 1", "3 new 50", "4 rains 1", "4 new 2");
        // at 0 to 5 a 5, b and c 6; at 6 to 9 a and c 8, b 3
        bores("the least of the greatest", 0, "5 creep 1", "3 new 9", "3 rains 1");
        // at 0 to 5 a 1, b and c 9; at 6 to 9 a and c 5, b 5
        bores("the least of the greatest", 6, "1 creep 1", "5 new 9", "4 rains 1");
        HillTap x = Due.told("lake stands 100 moves 1 to 100;peg p push 0 bed 0;story a weighs 9 creep 50;story b weighs 1 weak 0 after 999;story c weighs 1 new 7");
        Due.answered("all fit: a is apart from the others, who find 2 and 1, at 0", x, x.bore(), 0);
        x.read(0, 0, 0, 0);
        Due.answered("b and c alone fit", x, x.fits(), 2);
        Due.answered("2 and 1 at 0", x, x.bore(), 0);
        HillTap y = Due.told("lake stands 100 moves 1 to 100;peg p push 0 bed 0;story a weighs 99 new 9;story b weighs 1 weak 30 after 999;story c weighs 1 quick 30 above 9");
        Due.answered("a apart from b and c at 0", y, y.bore(), 0);
        y.read(0, 0, 3, 0);
        Due.answered("b and c alone fit: apart at 30", y, y.bore(), 30);
    }

    private static void boreRefused() {
        Due.sentence("27: bore: NONE: 1 (no HILL); 6 (no FITS)");
        HillTap x = new HillTap();
        Due.refused("no HILL", x, x.bore(), 1);
        Due.hill(x, THREE);
        Due.answered("all fit", x, x.bore(), 0);
        x.read(0, 0, 99, 0);
        Due.refused("no FITS", x, x.bore(), 6);
        x.forget();
        Due.answered("all fit again", x, x.bore(), 0);
    }

    // ---- villages

    private static void struck() {
        Due.sentence("III: STRUCK: a village whose high is no more than WAVE (if the HILL is GONE); 28: NONE: 1");
        HillTap x = new HillTap();
        Due.refused("no HILL", x, x.struck(0, 0), 1);
        Due.hill(x, SLIDES + ";village u high 15 people 1 needs 0;village v high 16 people 1 needs 0;village w high 0 people 1 needs 0;village x high 14 people 1 needs 0");
        Due.answered("WAVE", x, x.wave(0), 15);
        Due.answered("high 15", x, x.struck(0, 0), 1);
        Due.answered("high 16", x, x.struck(0, 1), 0);
        Due.answered("high 0", x, x.struck(0, 2), 1);
        Due.answered("high 14", x, x.struck(0, 3), 1);
        Due.answered("it isn't GONE, high 0", x, x.struck(1, 2), 0);
        for (int far : FAR) {
            Due.refused("STORY " + far, x, x.struck(far, 0), 1);
            Due.refused("village " + far, x, x.struck(0, far), 1);
        }
        Due.refused("STORY 2", x, x.struck(2, 0), 1);
        Due.refused("village 4", x, x.struck(0, 4), 1);
        HillTap dry = Due.told("lake stands 0 moves 10 to 10;peg p push 999 bed 0;rain 0 much 1;story a weighs 1 rains 1;"
            + "village v high 0 people 1 needs 0;village w high 1 people 1 needs 0");
        Due.answered("WAVE 0, but GONE: high 0", dry, dry.struck(0, 0), 1);
        Due.answered("WAVE 0, but GONE: high 1", dry, dry.struck(0, 1), 0);
    }

    private static void dead() {
        Due.sentence("III: DEAD: people of those STRUCK for whom DAY and needs is behind GONE; 29: NONE: 1 (STORY, DAY)");
        HillTap x = new HillTap();
        Due.refused("no HILL", x, x.dead(0, 0), 1);
        Due.hill(x, SLIDES + ";village u high 15 people 7 needs 0;village v high 16 people 999 needs 30;village w high 0 people 100 needs 3;village x high 0 people 900 needs 1");
        Due.answered("DAY 0: 3 is behind 2, 1 isn't", x, x.dead(0, 0), 100);
        Due.answered("DAY 1: 2 isn't behind 2", x, x.dead(0, 1), 100);
        Due.answered("DAY 2: 3 is, 2 isn't", x, x.dead(0, 2), 1000);
        Due.answered("DAY 3: 3 is", x, x.dead(0, 3), 1007);
        Due.answered("DAY 59", x, x.dead(0, 59), 1007);
        Due.answered("it isn't GONE", x, x.dead(1, 59), 0);
        for (int far : FAR) {
            Due.refused("STORY " + far, x, x.dead(far, 0), 1);
            Due.refused("DAY " + far, x, x.dead(0, far), 1);
        }
        Due.refused("STORY 2", x, x.dead(2, 0), 1);
        Due.refused("DAY 60", x, x.dead(0, 60), 1);
        HillTap none = Due.told(SLIDES);
        Due.answered("no villages", none, none.dead(0, 59), 0);
        HillTap most = Due.told("lake stands 0 moves 10 to 10;peg p push 999 bed 0;rain 30 much 1;story s weighs 1 rains 1;"
            + "village a high 0 people 999 needs 30;village b high 0 people 999 needs 30;village c high 0 people 999 needs 30;village d high 0 people 999 needs 30");
        Due.answered("needs 30, GONE on DAY 30", most, most.dead(0, 0), 0);
        Due.answered("all of them", most, most.dead(0, 1), 3996);
    }

    private static void tellNoLess() {
        Due.sentence("III: TELL: WEIGHT of FITS by which it is STRUCK times people is no less than cost times WEIGHT (and there are such FITS); 30: -2");
        HillTap x = Due.told(SLIDES + ";village u high 15 people 8 needs 0;village v high 16 people 999 needs 0;village w high 0 people 7 needs 0");
        // 3 of 8: 3 times 8 is 24, 3 times 7 is 21
        Due.answered("24 is no less than 3 times 8", x, x.tell(0, 3), 2);
        Due.answered("24 is less than 4 times 8", x, x.tell(0, 4), -2);
        Due.answered("21 is no less than 2 times 8", x, x.tell(2, 2), 2);
        Due.answered("21 is less than 3 times 8", x, x.tell(2, 3), -2);
        Due.answered("cost 0", x, x.tell(2, 0), 2);
        Due.answered("cost 0, but no such FITS", x, x.tell(1, 0), -2);
        Due.answered("the greatest cost", x, x.tell(0, 999999), -2);
        x.read(0, 2, 298, 0);
        Due.answered("the first STORY alone: 8 no less than 8", x, x.tell(0, 8), 2);
        Due.answered("the first STORY alone: 8 less than 9", x, x.tell(0, 9), -2);
        x.forget();
        x.read(0, 2, 297, 0);
        Due.answered("the second STORY alone: no such FITS", x, x.tell(0, 0), -2);
        HillTap most = Due.told("lake stands 500 moves 1 to 500;peg p push 999 bed 0;village v high 0 people 999 needs 0;"
            + "story a weighs 99 creep 99;story b weighs 99 creep 99;story c weighs 99 creep 99;"
            + "story d weighs 99 creep 99;story e weighs 99 creep 99;story f weighs 99 creep 99");
        Due.answered("594 times 999", most, most.tell(0, 999), 0);
        Due.answered("594 times 1,000", most, most.tell(0, 1000), -2);
        Due.answered("594 times 999,999", most, most.tell(0, 999999), -2);
    }

    private static void tellInTime() {
        Due.sentence("III: TELL: the latest DAY that is in time by all those (its needs ahead of the first GONE); 30: (0 at least)");
        HillTap x = Due.told("lake stands 0 moves 1 to 1;peg p push 990 bed 0;rain 20 much 1;rain 30 much 9;story a weighs 1 rains 1;story b weighs 1 rains 10;story c weighs 9 creep 0;"
            + "village u high 0 people 99 needs 0;village v high 0 people 99 needs 19;village w high 0 people 99 needs 20;village x high 0 people 99 needs 21");
        // By a GONE on no DAY (9 by 10 is 0), by b on DAY 20
        Due.answered("GONE by a", x, x.gone(0), -2);
        Due.answered("GONE by b", x, x.gone(1), 20);
        int[] due = {20, 1, 0, 0};
        for (int village = 0; village < 4; village++) {
            Due.answered("village " + village, x, x.tell(village, 0), due[village]);
        }
        HillTap two = Due.told("lake stands 0 moves 1 to 1;peg p push 990 bed 0;rain 20 much 1;rain 30 much 10;story a weighs 1 rains 1;story b weighs 1 rains 10;"
            + "village u high 0 people 99 needs 5");
        Due.answered("GONE by a", two, two.gone(0), 30);
        Due.answered("the first GONE, of the second STORY", two, two.tell(0, 0), 15);
        two.read(0, 20, 99 * 21, 0);
        Due.answered("of FITS alone", two, two.tell(0, 0), 25);
    }

    private static void tellRefused() {
        Due.sentence("30: tell: NONE: 1 (village); 2 (cost 0 .. 999,999); 6 (no FITS)");
        HillTap x = new HillTap();
        Due.refused("no HILL", x, x.tell(0, 0), 1);
        Due.refused("no HILL, cost -1", x, x.tell(0, -1), 1);
        Due.hill(x, SLIDES);
        Due.refused("no village", x, x.tell(0, 0), 1);
        Due.hill(x, SLIDES + ";village u high 0 people 8 needs 0");
        for (int far : FAR) {
            Due.refused("village " + far, x, x.tell(far, 0), 1);
            Due.refused("cost " + far, x, x.tell(0, far), 2);
        }
        Due.refused("village 1, cost -1", x, x.tell(1, -1), 1);
        Due.refused("cost 1,000,000", x, x.tell(0, 1000000), 2);
        Due.answered("cost 999,999", x, x.tell(0, 999999), -2);
        Due.answered("cost 0", x, x.tell(0, 0), 2);
        x.read(0, 0, 0, 0);
        Due.refused("no FITS", x, x.tell(0, 0), 6);
        Due.refused("no FITS, cost 1,000,000", x, x.tell(0, 1000000), 2);
        Due.refused("no FITS, village 1", x, x.tell(1, 0), 1);
    }

    // ---- parts, knowers

    private static void part() {
        Due.sentence("31: part: RAIN's part of a PEG's INCHES (0 by all but rains)");
        HillTap x = Due.told("lake stands 50 moves 10 to 99;peg p push 25 bed 0;peg q push 5 bed 20;rain 1 much 2;rain 59 much 9;story a weighs 1 rains 10;"
            + "story b weighs 1 creep 99;story c weighs 1 new 99;story d weighs 1 pressed 99 late 9;story e weighs 1 weak 99 after 0;story f weighs 1 quick 99 above 1");
        // p: SPEEDS 2 4 4 4 4 4 2, without rain 2; q: 0 0 .. (25 less 20 is 5), on DAY 59 (95 less 20) 7
        int[] due = {0, 2, 4, 6, 8, 10, 10, 10};
        for (int day = 0; day < due.length; day++) {
            Due.answered("p on DAY " + day, x, x.part(0, 0, day), due[day]);
        }
        Due.answered("p on DAY 58", x, x.part(0, 0, 58), 10);
        Due.answered("p on DAY 59", x, x.part(0, 0, 59), 19);
        Due.answered("q on DAY 58", x, x.part(0, 1, 58), 0);
        Due.answered("q on DAY 59", x, x.part(0, 1, 59), 7);
        for (int story = 1; story < 6; story++) {
            Due.answered("STORY " + story, x, x.part(story, 0, 59), 0);
        }
        HillTap none = Due.told("lake stands 50 moves 10 to 99;peg p push 25 bed 0;rain 1 much 2;story a weighs 1 rains 0");
        Due.answered("k 0", none, none.part(0, 0, 59), 0);
        HillTap dry = Due.told("lake stands 50 moves 10 to 99;peg p push 25 bed 0;story a weighs 1 rains 99");
        Due.answered("no rain", dry, dry.part(0, 0, 59), 0);
        HillTap gone = Due.told("lake stands 50 moves 10 to 99;peg p push 990 bed 0;rain 1 much 2;story a weighs 1 rains 10");
        // With rain 99 and 101, without it 99 a DAY
        Due.answered("on GONE's DAY", gone, gone.part(0, 0, 1), 2);
        Due.answered("behind it", gone, gone.part(0, 0, 2), -97);
        Due.answered("on DAY 59", gone, gone.part(0, 0, 59), 200 - 60 * 99);
    }

    private static void partRefused() {
        Due.sentence("31: part: NONE: 1");
        HillTap x = new HillTap();
        Due.refused("no HILL", x, x.part(0, 0, 0), 1);
        Due.hill(x, LINE + ";story b weighs 1 creep 0");
        for (int story = 0; story < 2; story++) {
            for (int far : FAR) {
                Due.refused("STORY " + far, x, x.part(far, 0, 0), 1);
                Due.refused("PEG " + far, x, x.part(story, far, 0), 1);
                Due.refused("DAY " + far, x, x.part(story, 0, far), 1);
            }
            Due.refused("STORY 2", x, x.part(2, 0, 0), 1);
            Due.refused("PEG 1", x, x.part(story, 1, 0), 1);
            Due.refused("DAY 60", x, x.part(story, 0, 60), 1);
        }
    }

    private static void knew() {
        Due.sentence("32: knew: the first DAY of which a knower's PEG was READ with no fewer INCHES than it reads; -2 if there is none");
        HillTap x = Due.told(THREE + ";knower j of p reads 5;knower k of q reads 0;knower l of p reads 999;knower m of p reads 6");
        for (int knower = 0; knower < 4; knower++) {
            Due.answered("nothing READ", x, x.knew(knower), -2);
        }
        x.read(0, 9, 4, 999);
        Due.answered("4 is fewer than 5", x, x.knew(0), -2);
        x.read(0, 8, 5, 0);
        Due.answered("5 is no fewer than 5", x, x.knew(0), 8);
        Due.answered("5 is fewer than 6", x, x.knew(3), -2);
        Due.answered("another PEG", x, x.knew(1), -2);
        x.read(1, 59, 0, 0);
        Due.answered("0 is no fewer than 0", x, x.knew(1), 59);
        x.read(1, 0, 0, 0);
        Due.answered("the first DAY, READ later", x, x.knew(1), 0);
        x.read(0, 10, 99999, 0);
        Due.answered("the first DAY, READ earlier", x, x.knew(0), 8);
        Due.answered("more than 999", x, x.knew(2), 10);
        x.read(0, 7, 998, 0);
        Due.answered("998 is fewer than 999", x, x.knew(2), 10);
        x.forget();
        Due.answered("nothing READ any more", x, x.knew(1), -2);
        x.read(0, 3, 999, 0);
        x.forget();
        for (int knower = 0; knower < 4; knower++) {
            Due.answered("nothing READ any more", x, x.knew(knower), -2);
        }
        for (int i = 0; i < 24; i++) {
            x.read(0, 59 - i, i == 22 ? 999 : 4, 0);
        }
        Due.answered("the 23rd of 24", x, x.knew(2), 37);
        Due.answered("none of 24", x, x.knew(1), -2);
    }

    private static void knewRefused() {
        Due.sentence("32: knew: NONE: 1");
        HillTap x = new HillTap();
        Due.refused("no HILL", x, x.knew(0), 1);
        Due.hill(x, THREE);
        Due.refused("no knower", x, x.knew(0), 1);
        Due.hill(x, THREE + ";knower j of p reads 5");
        for (int far : FAR) {
            Due.refused("knew(" + far + ")", x, x.knew(far), 1);
        }
        Due.refused("knew(1)", x, x.knew(1), 1);
    }

    private static void led() {
        Due.sentence("33: led: the i-th DAY on which all SPEEDS by a STORY together are above those of the DAY ahead");
        HillTap x = Due.told(LINE);
        // SPEEDS 0 1 3 10 10 10 9 7 0
        Due.is("led(0, 0)", x.led(0, 0), 1);
        Due.is("led(0, 1)", x.led(0, 1), 2);
        Due.is("led(0, 2)", x.led(0, 2), 3);
        Due.noLed("led(0, 3)", x, 0, 3);
        HillTap day0 = Due.told("lake stands 0 moves 1 to 1;peg p push 10 bed 0;rain 59 much 10;story r weighs 1 rains 1;story c weighs 1 creep 0");
        Due.is("DAY 0, above 0", day0.led(0, 0), 0);
        Due.is("DAY 59", day0.led(0, 1), 59);
        Due.noLed("no more", day0, 0, 2);
        Due.is("by the other STORY", day0.led(1, 0), 0);
        Due.noLed("by the other STORY", day0, 1, 1);
        // p 7 3 0 0 0 0 0, q 29 27 25 28 30 33 37
        HillTap together = Due.told("lake stands 100 moves 50 to 100;from 1 level 0;story s weighs 1 weak 99 after 0;peg p push 0 bed 20;peg q push 700 bed 500");
        int[] due = {0, 3, 4, 5, 6};
        for (int i = 0; i < due.length; i++) {
            Due.is("36 30 25 28 30 33 37: led(0, " + i + ")", together.led(0, i), due[i]);
        }
        HillTap mixed = Due.told("lake stands 0 moves 50 to 50;from 1 level 50;from 2 level 0;peg p push 20 bed 15;peg q push 100 bed 0;story s weighs 1 quick 50 above 3");
        // p 0 3 2 0, q 10 12 10 10
        Due.is("DAY 0", mixed.led(0, 0), 0);
        Due.is("DAY 1", mixed.led(0, 1), 1);
        Due.noLed("no more", mixed, 0, 2);
    }

    private static void ledThrows() {
        Due.sentence("33: led: NoSuchElementException if there is none such");
        HillTap x = new HillTap();
        Due.noLed("no HILL", x, 0, 0);
        Due.hill(x, LINE);
        for (int far : FAR) {
            Due.noLed("STORY " + far, x, far, 0);
            Due.noLed("i " + far, x, 0, far);
        }
        Due.noLed("STORY 1", x, 1, 0);
        Due.noLed("i 3", x, 0, 3);
        HillTap still = Due.told("lake stands 0 moves 1 to 1;peg p push 0 bed 0;story s weighs 1 creep 0");
        Due.noLed("no DAY at all", still, 0, 0);
        Due.answered("it stands behind it", x, x.gone(0), -2);
        Due.is("it stands behind it", x.led(0, 0), 1);
    }
}
