/**
 * The boundary cases of Terms II (DAYS, GOAL, LEVEL, ADD, RESIST, GONE) and of promises 6 to 11: a test of its own
 * for each sentence that names one, told by Due.sentence().
 */
public final class DaysEdgesTest {
    private static final int INCHES = 0;
    private static final int SPEED = 1;
    private static final int WORN = 2;
    private static final String STILL = ";peg p push 0 bed 0;story s weighs 1 creep 0";
    private static final int[] FAR = {Integer.MIN_VALUE, -2, -1, Integer.MAX_VALUE};

    private DaysEdgesTest() {
    }

    public static void main(String[] args) {
        days0To59();
        fromsNotBehindIt();
        theLatestDay();
        theLatestLine();
        aheadOfAllStands();
        levelAheadOfDay0();
        noFurtherThanTo();
        byMovesAtMost();
        addOfCreepWeakQuick();
        addOfNew();
        addOfNewIs0AtLeast();
        addOfPressed();
        addOfPressedDownwards();
        addOfPressedOfTheLastTwenty();
        addOfRains();
        resist0AtLeast();
        resistOfQuick();
        resistOfQuickEachDay();
        speed0AtLeast();
        speedBy10();
        wornByWeakAlone();
        wornFromAftersOn();
        allIs0AheadOfDay0();
        goneAt100();
        goneBySomePeg();
        goneOnTheFirstSuchDay();
        nothingGoesOnBehindGone();
        waveOfAllSpeeds();
        waveNone();
        levelRefused();
        planAnswers();
        planRefusedByANumber();
        planRefusedWithoutRoom();
        undoTakesTheLatest();
        undoLeavesAllAsItWas();
        undoRefused();
        pegRefused();
        goneAndWaveRefused();
        Due.end();
    }

    // ---- GOAL and LEVEL

    private static void days0To59() {
        Due.sentence("II: DAYS 0 .. 59");
        HillTap x = Due.told("lake stands 0 moves 1 to 99;from 0 level 99" + STILL);
        Due.levels("the first", x, 0, 1, 2);
        Due.levels("the last", x, 58, 59, 60);
    }

    private static void fromsNotBehindIt() {
        Due.sentence("II: GOAL: of the froms not behind it");
        HillTap x = Due.told("lake stands 10 moves 5 to 100;from 3 level 25" + STILL);
        Due.levels("from 3", x, 0, 10, 10, 10, 15, 20, 25, 25);
        HillTap last = Due.told("lake stands 10 moves 5 to 100;from 59 level 25" + STILL);
        Due.levels("from 59", last, 57, 10, 10, 15);
        HillTap first = Due.told("lake stands 10 moves 5 to 100;from 0 level 25" + STILL);
        Due.levels("from 0", first, 0, 15, 20, 25, 25);
    }

    private static void theLatestDay() {
        Due.sentence("II: GOAL: the one with the latest DAY");
        HillTap x = Due.told("lake stands 10 moves 5 to 100;from 4 level 30;from 2 level 0;from 6 level 3" + STILL);
        Due.levels("not the latest LINE", x, 0, 10, 10, 5, 0, 5, 10, 5, 3, 3);
    }

    private static void theLatestLine() {
        Due.sentence("II: GOAL: of like ones the latest LINE");
        HillTap x = Due.told("lake stands 10 moves 5 to 100;from 2 level 99;from 2 level 0;from 2 level 20;from 1 level 5" + STILL);
        Due.levels("three of DAY 2", x, 0, 10, 5, 10, 15, 20, 20);
        HillTap zero = Due.told("lake stands 10 moves 5 to 100;from 0 level 99;from 0 level 10" + STILL);
        Due.levels("two of DAY 0", zero, 0, 10, 10);
        Due.answered("a third by plan()", zero, zero.plan(0, 0), 3);
        Due.levels("plan()'s is behind all others", zero, 0, 5, 0, 0);
    }

    private static void aheadOfAllStands() {
        Due.sentence("II: GOAL: ahead of all of them stands");
        HillTap x = Due.told("lake stands 10 moves 5 to 100" + STILL);
        Due.levels("no from at all", x, 0, 10, 10);
        Due.answered("no from at all, DAY 59", x, x.level(59), 10);
        x.plan(30, 0);
        Due.levels("ahead of the only one", x, 28, 10, 10, 5, 0, 0);
    }

    private static void levelAheadOfDay0() {
        Due.sentence("II: LEVEL: ahead of DAY 0 stands");
        HillTap up = Due.told("lake stands 10 moves 5 to 100;from 0 level 100" + STILL);
        Due.answered("DAY 0 is a step behind stands", up, up.level(0), 15);
        HillTap down = Due.told("lake stands 10 moves 5 to 100;from 0 level 0" + STILL);
        Due.answered("DAY 0 is a step behind stands", down, down.level(0), 5);
    }

    private static void noFurtherThanTo() {
        Due.sentence("II: LEVEL: (no further than to)");
        HillTap x = Due.told("lake stands 10 moves 5 to 23;from 0 level 999" + STILL);
        Due.levels("GOAL 999, to 23", x, 0, 15, 20, 23, 23);
        HillTap at = Due.told("lake stands 10 moves 5 to 20;from 0 level 20;from 5 level 21" + STILL);
        Due.levels("GOAL at to, then one above", at, 0, 15, 20, 20, 20, 20, 20, 20);
        HillTap full = Due.told("lake stands 10 moves 5 to 10;from 0 level 999" + STILL);
        Due.levels("stands at to", full, 0, 10, 10);
    }

    private static void byMovesAtMost() {
        Due.sentence("II: LEVEL: towards the GOAL by moves at most");
        HillTap x = Due.told("lake stands 10 moves 5 to 100;from 0 level 20;from 3 level 26;from 6 level 14;from 9 level 0" + STILL);
        Due.levels("whole steps, shorter ones, up and down", x, 0, 15, 20, 20, 25, 26, 26, 21, 16, 14, 9, 4, 0, 0);
        HillTap one = Due.told("lake stands 1 moves 50 to 100;from 1 level 0;from 3 level 49;from 5 level 99;from 7 level 49" + STILL);
        Due.levels("moves 50", one, 0, 1, 0, 0, 49, 49, 99, 99, 49);
        HillTap most = Due.told("lake stands 1 moves 50 to 100;from 0 level 51;from 1 level 0;from 4 level 52" + STILL);
        Due.levels("moves 50, just and one more", most, 0, 51, 1, 0, 0, 50, 52);
    }

    // ---- ADD

    private static void addOfCreepWeakQuick() {
        Due.sentence("II: ADD: creep, weak, quick: k times L by 100 (divisions downwards)");
        for (String kind : new String[] {"creep K", "weak K after 999", "quick K above 99"}) {
            String story = "lake stands 20 moves 1 to 20;peg p push 0 bed 0;story s weighs 1 ";
            HillTap just = Due.told(story + kind.replace("K", "50"));
            Due.pegs(kind + ": 50 times 20 by 100 is 10", just, 0, 0, SPEED, 0, 1, 1);
            HillTap under = Due.told(story + kind.replace("K", "49"));
            Due.pegs(kind + ": 49 times 20 by 100 is 9", under, 0, 0, SPEED, 0, 0, 0);
            HillTap none = Due.told(story.replace("push 0", "push 9") + kind.replace("K", "0"));
            Due.pegs(kind + ": k 0", none, 0, 0, SPEED, 0, 0, 0);
            HillTap dry = Due.told("lake stands 0 moves 1 to 1;peg p push 9 bed 0;story s weighs 1 " + kind.replace("K", "99"));
            Due.pegs(kind + ": L 0", dry, 0, 0, SPEED, 0, 0, 0);
            HillTap most = Due.told("lake stands 500 moves 50 to 999;from 0 level 999;peg p push 0 bed 0;peg q push 11 bed 0;story s weighs 1 "
                + kind.replace("K", "99"));
            Due.pegs(kind + ": 99 times 999 by 100 is 989", most, 0, 0, SPEED, 9, 98, 0);
            Due.pegs(kind + ": 989 and 11", most, 0, 1, SPEED, 8, 95, 100, 0);
        }
    }

    private static void addOfNew() {
        Due.sentence("II: ADD: new: k times (L less the highest LEVEL of all DAYS ahead, stands too) by 100");
        HillTap x = Due.told("lake stands 50 moves 50 to 200;from 1 level 50;from 2 level 100;from 4 level 60;from 5 level 110;from 6 level 150;"
            + "peg p push 100 bed 0;story s weighs 1 new 99;from 0 level 0");
        // LEVELS 0 50 100 100 60 110 150 150: 50, 10 and 40 above all ahead; 99 times 10 by 100 is 9
        Due.pegs("new", x, 0, 0, SPEED, 0, 10, 10, 14, 10, 10, 10, 13, 10);
        HillTap first = Due.told("lake stands 50 moves 50 to 200;from 0 level 100;peg p push 100 bed 0;story s weighs 1 new 99");
        Due.pegs("DAY 0 against stands", first, 0, 0, SPEED, 0, 14, 10, 10);
        HillTap by = Due.told("lake stands 0 moves 10 to 200;from 0 level 30;peg p push 1 bed 0;story s weighs 1 new 90;story t weighs 1 new 89");
        Due.pegs("90 times 10 by 100 is 9", by, 0, 0, SPEED, 0, 1, 1, 1, 0);
        Due.pegs("89 times 10 by 100 is 8", by, 1, 0, SPEED, 0, 0, 0, 0, 0);
    }

    private static void addOfNewIs0AtLeast() {
        Due.sentence("II: ADD: new: 0 at least");
        HillTap x = Due.told("lake stands 500 moves 50 to 500;from 0 level 0;peg p push 100 bed 0;story s weighs 1 new 99");
        Due.pegs("far below stands", x, 0, 0, SPEED, 0, 10, 10, 10, 10, 10);
        Due.answered("all INCHES", x, x.peg(0, 0, 59, INCHES), 600);
    }

    private static void addOfPressed() {
        Due.sentence("II: ADD: pressed: the mean of the last so many DAYS (this one too; fewer at the beginning)");
        HillTap x = Due.told("lake stands 0 moves 40 to 40;from 0 level 40;from 3 level 0;peg p push 3 bed 0;story s weighs 1 pressed 99 late 3;"
            + "story t weighs 1 pressed 99 late 1;story u weighs 1 pressed 99 late 2");
        // LEVELS 40 40 40 0 0 0: means by three 40 40 40 26 13 0, by one as they are, by two 40 40 40 20 0
        Due.pegs("late 3", x, 0, 0, SPEED, 0, 4, 4, 4, 2, 1, 0, 0);
        Due.pegs("late 1", x, 1, 0, SPEED, 0, 4, 4, 4, 0, 0);
        Due.pegs("late 2", x, 2, 0, SPEED, 0, 4, 4, 4, 2, 0, 0);
        HillTap stands = Due.told("lake stands 200 moves 50 to 200;from 0 level 0;peg p push 0 bed 0;story s weighs 1 pressed 99 late 20");
        // LEVELS 150 100 50 0: stands isn't of the mean
        Due.pegs("stands isn't of a DAY", stands, 0, 0, SPEED, 0, 14, 12, 9, 7, 5, 4);
        HillTap by = Due.told("lake stands 20 moves 1 to 20;peg p push 0 bed 0;story s weighs 1 pressed 50 late 3;story t weighs 1 pressed 49 late 3");
        Due.pegs("50 times 20 by 100 is 10", by, 0, 0, SPEED, 0, 1, 1, 1, 1);
        Due.pegs("49 times 20 by 100 is 9", by, 1, 0, SPEED, 0, 0, 0, 0, 0);
    }

    private static void addOfPressedDownwards() {
        Due.sentence("II: ADD: pressed: the mean, downwards, by 100");
        HillTap x = Due.told("lake stands 0 moves 7 to 100;from 0 level 100;peg p push 0 bed 0;peg q push 1 bed 0;story s weighs 1 pressed 99 late 3");
        // LEVELS 7 14 21 28: means 7, 10 (of 21 by 2), 14, 21; 99 times 10 by 100 is 9, 99 times 10.5 would be 10
        Due.pegs("9", x, 0, 0, SPEED, 0, 0, 0, 1, 2);
        Due.pegs("9 and 1", x, 0, 1, SPEED, 0, 0, 1, 1, 2);
    }

    private static void addOfPressedOfTheLastTwenty() {
        Due.sentence("II: ADD: pressed: late 20");
        HillTap x = Due.told("lake stands 0 moves 50 to 50;from 39 level 50;from 40 level 0;peg p push 9 bed 0;story s weighs 1 pressed 99 late 20");
        // 50 by 20 is 2, 99 times 2 by 100 is 1
        Due.pegs("DAY 39's LEVEL counts on DAYS 39 to 58", x, 0, 0, SPEED, 37, 0, 0, 1, 1);
        Due.pegs("and not on DAY 59", x, 0, 0, SPEED, 57, 1, 1, 0);
    }

    private static void addOfRains() {
        Due.sentence("II: ADD: rains: k times all rain of the last five DAYS (this one too)");
        String hill = "lake stands 500 moves 1 to 500;peg p push 0 bed 0;";
        HillTap x = Due.told(hill + "rain 3 much 10;story s weighs 1 rains 1;story t weighs 1 rains 0;story u weighs 1 creep 0");
        Due.pegs("five DAYS", x, 0, 0, SPEED, 0, 0, 0, 0, 1, 1, 1, 1, 1, 0, 0);
        Due.pegs("k 0", x, 1, 0, SPEED, 0, 0, 0, 0, 0, 0);
        Due.pegs("by another STORY", x, 2, 0, SPEED, 0, 0, 0, 0, 0, 0);
        HillTap ends = Due.told(hill + "rain 59 much 20;rain 0 much 10;story s weighs 1 rains 1");
        Due.pegs("DAY 0", ends, 0, 0, SPEED, 0, 1, 1, 1, 1, 1, 0);
        Due.pegs("DAY 59", ends, 0, 0, SPEED, 58, 0, 2);
        HillTap all = Due.told(hill + "rain 2 much 10;rain 2 much 10;rain 6 much 10;rain 7 much 30;story s weighs 1 rains 1");
        Due.pegs("all rain, of one DAY too", all, 0, 0, SPEED, 0, 0, 0, 2, 2, 2, 2, 3, 4, 4, 4, 4, 3, 0);
        HillTap most = Due.told(hill.replace("bed 0", "bed 999") + "rain 0 much 99;story s weighs 1 rains 99");
        // 99 times 99 is 9,801, not by 100
        Due.pegs("9,801 less 999", most, 0, 0, SPEED, 0, 880, 0);
    }

    // ---- RESIST, SPEED, WORN

    private static void resist0AtLeast() {
        Due.sentence("II: RESIST: bed less WORN, 0 at least");
        HillTap x = Due.told("lake stands 0 moves 1 to 1;peg p push 29 bed 3;story s weighs 1 weak 0 after 0");
        // RESIST 3, 1, then 0 and not -1, by which SPEED would be 3
        Due.pegs("WORN beyond bed", x, 0, 0, SPEED, 0, 2, 2, 2, 2, 2);
        Due.pegs("WORN beyond bed", x, 0, 0, WORN, 0, 2, 4, 6, 8, 10);
        HillTap down = Due.told("lake stands 0 moves 1 to 1;peg p push 30 bed 12;story s weighs 1 weak 0 after 0");
        // RESIST 12 11 10 8 6 4 2 0 0
        Due.pegs("RESIST down to 0", down, 0, 0, SPEED, 0, 1, 1, 2, 2, 2, 2, 2, 3, 3);
    }

    private static void resistOfQuick() {
        Due.sentence("II: RESIST: by quick: 0, if SPEED of the DAY ahead was above's or more");
        String hill = "lake stands 0 moves 1 to 1;peg p push 50 bed 20;peg q push 49 bed 20;story s weighs 1 ";
        HillTap at = Due.told(hill + "quick 0 above 3;story t weighs 1 quick 0 above 4;story u weighs 1 creep 0");
        Due.pegs("above's", at, 0, 0, SPEED, 0, 3, 5, 5, 5);
        Due.pegs("one below above's", at, 0, 1, SPEED, 0, 2, 2, 2, 2);
        Due.pegs("above 4", at, 1, 0, SPEED, 0, 3, 3, 3);
        Due.pegs("by creep RESIST stays", at, 2, 0, SPEED, 0, 3, 3, 3);
        HillTap more = Due.told(hill + "quick 0 above 2");
        Due.pegs("more than above's", more, 0, 0, SPEED, 0, 3, 5, 5);
        Due.pegs("each PEG by its own", more, 0, 1, SPEED, 0, 2, 4, 4);
        HillTap most = Due.told("lake stands 0 moves 1 to 1;peg p push 999 bed 9;peg q push 999 bed 10;story s weighs 1 quick 99 above 99");
        Due.pegs("above 99", most, 0, 0, SPEED, 0, 99, 99);
        Due.pegs("above 99, SPEED 98", most, 0, 1, SPEED, 0, 98, 98);
    }

    private static void resistOfQuickEachDay() {
        Due.sentence("II: RESIST: by quick: SPEED of the DAY ahead, not of any");
        HillTap x = Due.told("lake stands 0 moves 50 to 50;from 1 level 50;from 3 level 0;peg p push 20 bed 15;story s weighs 1 quick 50 above 3");
        // ADD 0 25 25 0 0: 5, 30, then RESIST 0: 45, 20, and 15 again behind SPEED 2
        Due.pegs("back below above's", x, 0, 0, SPEED, 0, 0, 3, 4, 2, 0, 0);
    }

    private static void speed0AtLeast() {
        Due.sentence("II: SPEED: push and ADD less RESIST, 0 at least");
        HillTap x = Due.told("lake stands 0 moves 50 to 50;from 2 level 50;peg p push 0 bed 999;peg q push 10 bed 20;story s weighs 1 creep 40");
        Due.pegs("far below 0", x, 0, 0, SPEED, 0, 0, 0, 0);
        Due.pegs("far below 0", x, 0, 0, INCHES, 58, 0, 0);
        Due.pegs("-10, then 10", x, 0, 1, SPEED, 0, 0, 0, 1, 1);
        Due.pegs("-10, then 10", x, 0, 1, INCHES, 0, 0, 0, 1, 2);
    }

    private static void speedBy10() {
        Due.sentence("II: SPEED: by 10 (divisions downwards)");
        HillTap x = Due.told("lake stands 0 moves 1 to 1;peg a push 9 bed 0;peg b push 10 bed 0;peg c push 19 bed 0;peg d push 20 bed 0;peg e push 25 bed 6;"
            + "story s weighs 1 creep 0");
        int[] due = {0, 1, 1, 2, 1};
        for (int peg = 0; peg < due.length; peg++) {
            Due.pegs("by 10", x, 0, peg, SPEED, 0, due[peg], due[peg]);
            Due.pegs("all SPEEDS together", x, 0, peg, INCHES, 58, 59 * due[peg], 60 * due[peg]);
        }
    }

    private static void wornByWeakAlone() {
        Due.sentence("II: WORN grows by SPEED, by weak alone");
        HillTap x = Due.told("lake stands 10 moves 1 to 10;rain 0 much 9;peg p push 50 bed 10;story a weighs 1 creep 9;story b weighs 1 new 9;"
            + "story c weighs 1 pressed 9 late 1;story d weighs 1 quick 9 above 9;story e weighs 1 rains 1;story f weighs 1 weak 0 after 0");
        for (int story = 0; story < 5; story++) {
            Due.pegs("not by weak", x, story, 0, WORN, 0, 0, 0, 0);
            Due.pegs("not by weak", x, story, 0, WORN, 58, 0, 0);
        }
        Due.pegs("by weak", x, 5, 0, WORN, 0, 4, 8, 12, 17, 22);
        HillTap still = Due.told("lake stands 0 moves 1 to 1;peg p push 9 bed 0;story s weighs 1 weak 0 after 0");
        Due.pegs("by SPEED 0", still, 0, 0, WORN, 0, 0, 0);
    }

    private static void wornFromAftersOn() {
        Due.sentence("II: WORN grows on DAYS behind which INCHES are after's or more");
        String hill = "lake stands 0 moves 1 to 1;peg p push 20 bed 0;story s weighs 1 weak 0 after ";
        Due.pegs("after 0", Due.told(hill + "0"), 0, 0, WORN, 0, 2, 4, 6);
        Due.pegs("after 2", Due.told(hill + "2"), 0, 0, WORN, 0, 2, 4, 6);
        Due.pegs("after 3", Due.told(hill + "3"), 0, 0, WORN, 0, 0, 2, 4);
        Due.pegs("after 4", Due.told(hill + "4"), 0, 0, WORN, 0, 0, 2, 4);
        Due.pegs("after 5", Due.told(hill + "5"), 0, 0, WORN, 0, 0, 0, 2);
        Due.pegs("after 119", Due.told(hill + "119"), 0, 0, WORN, 58, 0, 2);
        Due.pegs("after 120", Due.told(hill + "120"), 0, 0, WORN, 58, 0, 2);
        Due.pegs("after 121", Due.told(hill + "121"), 0, 0, WORN, 58, 0, 0);
        HillTap two = Due.told("lake stands 0 moves 1 to 1;peg p push 20 bed 0;peg q push 40 bed 0;story s weighs 1 weak 0 after 4");
        Due.pegs("each PEG by its own INCHES", two, 0, 0, WORN, 0, 0, 2, 4);
        Due.pegs("each PEG by its own INCHES", two, 0, 1, WORN, 0, 4, 8, 12);
    }

    private static void allIs0AheadOfDay0() {
        Due.sentence("II: All is 0 ahead of DAY 0");
        HillTap x = Due.told("lake stands 0 moves 1 to 1;peg p push 30 bed 10;peg q push 30 bed 10;story s weighs 1 quick 0 above 1;story t weighs 1 weak 0 after 0");
        for (int peg = 0; peg < 2; peg++) {
            Due.pegs("quick: RESIST on DAY 0", x, 0, peg, SPEED, 0, 2, 3);
            Due.pegs("INCHES from 0 on", x, 0, peg, INCHES, 0, 2, 5, 8);
            Due.pegs("weak: WORN from 0 on", x, 1, peg, WORN, 0, 2, 4);
        }
        // Nothing of an earlier HILL's last DAYS is left.
        Due.hill(x, "lake stands 0 moves 1 to 1;peg p push 30 bed 10;story s weighs 1 quick 0 above 1");
        Due.pegs("another HILL", x, 0, 0, SPEED, 0, 2, 3);
        Due.pegs("another HILL", x, 0, 0, INCHES, 0, 2, 5);
    }

    // ---- GONE and WAVE

    private static void goneAt100() {
        Due.sentence("II: GONE: SPEED is 100 or more");
        HillTap at = Due.told("lake stands 100 moves 1 to 100;peg p push 990 bed 0;story s weighs 1 creep 10;story t weighs 1 creep 9;story u weighs 1 creep 99");
        Due.answered("SPEED 100", at, at.gone(0), 0);
        Due.pegs("SPEED 100", at, 0, 0, SPEED, 0, 100, 0);
        Due.answered("SPEED 99", at, at.gone(1), -2);
        Due.pegs("SPEED 99", at, 1, 0, SPEED, 58, 99, 99);
        Due.answered("SPEED 108", at, at.gone(2), 0);
    }

    private static void goneBySomePeg() {
        Due.sentence("II: GONE: some PEG's SPEED");
        String pegs = "peg a push 999 bed 0;peg b push 999 bed 0;peg c push 999 bed 0;peg d push 999 bed 0;";
        HillTap five = Due.told("lake stands 1 moves 1 to 1;" + pegs + "peg e push 999 bed 0;story s weighs 1 creep 99");
        Due.answered("495 together, but 99 each", five, five.gone(0), -2);
        for (int peg = 0; peg < 5; peg++) {
            StringBuilder b = new StringBuilder("lake stands 10 moves 1 to 10;");
            for (int i = 0; i < 5; i++) {
                b.append("peg ").append((char) ('a' + i)).append(" push ").append(i == peg ? 991 : 9).append(" bed 0;");
            }
            HillTap one = Due.told(b + "story s weighs 1 creep 99");
            Due.answered("PEG " + peg + " alone", one, one.gone(0), 0);
        }
    }

    private static void goneOnTheFirstSuchDay() {
        Due.sentence("II: GONE: the first DAY");
        HillTap x = Due.told("lake stands 0 moves 10 to 10;peg p push 999 bed 0;story s weighs 1 rains 1;story t weighs 1 creep 0;rain 7 much 1;rain 30 much 9");
        Due.answered("of two", x, x.gone(0), 7);
        HillTap last = Due.told("lake stands 0 moves 10 to 10;peg p push 999 bed 0;story s weighs 1 rains 1;rain 59 much 1");
        Due.answered("DAY 59", last, last.gone(0), 59);
        HillTap first = Due.told("lake stands 0 moves 10 to 10;peg p push 999 bed 0;story s weighs 1 rains 1;rain 0 much 1");
        Due.answered("DAY 0", first, first.gone(0), 0);
    }

    private static void nothingGoesOnBehindGone() {
        Due.sentence("II: GONE: behind it nothing goes on (SPEED 0)");
        HillTap x = Due.told("lake stands 0 moves 50 to 50;peg p push 500 bed 0;peg q push 980 bed 0;peg r push 20 bed 0;"
            + "story s weighs 1 weak 99 after 0;from 1 level 50;story t weighs 1 creep 0");
        Due.answered("GONE", x, x.gone(0), 1);
        // ADD 0, then 49
        Due.pegs("the first PEG, on that DAY too", x, 0, 0, SPEED, 0, 50, 54, 0, 0);
        Due.pegs("the one that is 100 or more", x, 0, 1, SPEED, 0, 98, 102, 0, 0);
        Due.pegs("the last PEG, on that DAY too", x, 0, 2, SPEED, 0, 2, 6, 0, 0);
        Due.pegs("INCHES stay", x, 0, 0, INCHES, 0, 50, 104, 104, 104);
        Due.pegs("INCHES stay", x, 0, 1, INCHES, 58, 200, 200);
        Due.pegs("WORN stays", x, 0, 2, WORN, 0, 2, 8, 8, 8);
        Due.pegs("WORN stays", x, 0, 1, WORN, 58, 200, 200);
        Due.pegs("by a STORY by which it isn't GONE it goes on", x, 1, 1, SPEED, 58, 98, 98);
    }

    private static void waveOfAllSpeeds() {
        Due.sentence("II: WAVE: all SPEEDS of that DAY times L by 100");
        HillTap x = Due.told("lake stands 0 moves 50 to 500;from 0 level 500;peg p push 985 bed 0;peg q push 30 bed 0;story s weighs 1 creep 30");
        // DAY 0: LEVEL 50, ADD 15: 100 and 4
        Due.answered("104 times 50 by 100", x, x.wave(0), 52);
        HillTap down = Due.told("lake stands 33 moves 1 to 33;peg p push 990 bed 0;peg q push 20 bed 0;story s weighs 1 creep 31");
        // ADD 10: 100 and 3
        Due.answered("103 times 33 by 100 is 33", down, down.wave(0), 33);
        HillTap level = Due.told("lake stands 10 moves 5 to 40;from 0 level 40;peg p push 995 bed 0;story s weighs 1 creep 20;story t weighs 1 pressed 20 late 1");
        // LEVELS 15 20 25: ADD 3, 4, 5
        Due.answered("GONE on DAY 2", level, level.gone(0), 2);
        Due.answered("L of that DAY: 100 times 25 by 100", level, level.wave(0), 25);
        HillTap most = Due.told("lake stands 500 moves 50 to 999;from 0 level 999;rain 10 much 99;peg a push 0 bed 0;peg b push 0 bed 0;peg c push 0 bed 0;"
            + "peg d push 0 bed 0;peg e push 0 bed 0;story s weighs 1 rains 99");
        // 9,801 by 10 is 980, five times, times 999 by 100
        Due.answered("the most", most, most.wave(0), 48951);
        HillTap dry = Due.told("lake stands 0 moves 50 to 999;rain 10 much 99;peg a push 0 bed 0;story s weighs 1 rains 99");
        Due.answered("LEVEL 0", dry, dry.wave(0), 0);
        Due.answered("LEVEL 0", dry, dry.gone(0), 10);
    }

    private static void waveNone() {
        Due.sentence("II: WAVE: (none: 0)");
        HillTap x = Due.told("lake stands 500 moves 1 to 500;peg p push 999 bed 9;story s weighs 1 creep 0");
        Due.answered("not GONE", x, x.gone(0), -2);
        Due.answered("WAVE", x, x.wave(0), 0);
        HillTap y = Due.told("lake stands 100 moves 50 to 100;peg p push 999 bed 0;story s weighs 1 creep 1");
        Due.answered("GONE", y, y.wave(0), 100);
        y.plan(0, 0);
        Due.answered("not GONE by another plan", y, y.wave(0), 0);
        y.undo();
        Due.answered("GONE again", y, y.wave(0), 100);
    }

    // ---- promises 6 to 11

    private static void levelRefused() {
        Due.sentence("6: level: NONE: 1");
        HillTap x = new HillTap();
        Due.refused("without a HILL", x, x.level(0), 1);
        Due.hill(x, "lake stands 7 moves 1 to 9" + STILL);
        for (int day : FAR) {
            Due.refused("level(" + day + ")", x, x.level(day), 1);
        }
        Due.refused("level(60)", x, x.level(60), 1);
        Due.answered("level(0)", x, x.level(0), 7);
        Due.answered("level(59)", x, x.level(59), 7);
    }

    private static void planAnswers() {
        Due.sentence("7: plan: a from more, behind all others: how many there are");
        HillTap x = Due.told("lake stands 50 moves 10 to 99;from 5 level 0" + STILL);
        Due.answered("of a like DAY", x, x.plan(5, 99), 2);
        Due.levels("behind the text's", x, 4, 50, 60, 70);
        Due.answered("of a like DAY again", x, x.plan(5, 0), 3);
        Due.levels("behind plan()'s", x, 4, 50, 40, 30);
        Due.answered("DAY 0, LEVEL 0", x, x.plan(0, 0), 4);
        Due.levels("of an earlier DAY", x, 0, 40, 30, 20, 10, 0, 0);
        Due.answered("DAY 59, LEVEL 999", x, x.plan(59, 999), 5);
        Due.levels("of DAY 59", x, 57, 0, 0, 10);
    }

    private static void planRefusedByANumber() {
        Due.sentence("7: plan: NONE: 1 (no HILL); 2 (DAY, LEVEL 0 .. 999)");
        HillTap x = new HillTap();
        Due.refused("no HILL", x, x.plan(0, 0), 1);
        Due.refused("no HILL and no DAY", x, x.plan(60, 1000), 1);
        Due.hill(x, "lake stands 50 moves 10 to 99" + STILL);
        for (int far : FAR) {
            Due.refused("plan(" + far + ", 0)", x, x.plan(far, 0), 2);
            Due.refused("plan(0, " + far + ")", x, x.plan(0, far), 2);
        }
        Due.refused("plan(60, 0)", x, x.plan(60, 0), 2);
        Due.refused("plan(0, 1000)", x, x.plan(0, 1000), 2);
        Due.is("none came", x.size(1), 0);
        Due.levels("none came", x, 0, 50, 50);
        Due.no("nothing to undo", x.undo());
        Due.answered("999, above to", x, x.plan(0, 999), 1);
        Due.levels("no further than to", x, 0, 60, 70, 80, 90, 99, 99);
    }

    private static void planRefusedWithoutRoom() {
        Due.sentence("7: plan: NONE: 3 (16 are)");
        HillTap x = Due.told("lake stands 50 moves 10 to 99" + STILL);
        for (int i = 1; i <= 16; i++) {
            Due.answered("plan the " + i + "th", x, x.plan(i, i), i);
        }
        Due.refused("plan the 17th", x, x.plan(0, 0), 3);
        Due.refused("the 17th, of no DAY", x, x.plan(60, 0), 2);
        Due.is("16", x.size(1), 16);
        Due.answered("the 17th didn't come", x, x.level(0), 50);
        Due.yes("undo", x.undo());
        Due.answered("room again", x, x.plan(0, 0), 16);
        Due.answered("it came", x, x.level(0), 40);
        HillTap eight = Due.told("lake stands 50 moves 10 to 99" + STILL + ";from 1 level 1".repeat(8));
        for (int i = 9; i <= 16; i++) {
            Due.answered("the text's are counted: the " + i + "th", eight, eight.plan(1, i), i);
        }
        Due.refused("plan the 17th", eight, eight.plan(0, 0), 3);
        for (int i = 0; i < 8; i++) {
            Due.yes("undo", eight.undo());
        }
        Due.no("the text's stay", eight.undo());
        Due.is("8", eight.size(1), 8);
    }

    private static void undoTakesTheLatest() {
        Due.sentence("8: undo: the latest from that plan() told goes again: true");
        HillTap x = Due.told("lake stands 50 moves 10 to 99;from 5 level 0" + STILL);
        x.plan(59, 99);
        x.plan(5, 99);
        Due.levels("two told", x, 4, 50, 60, 70);
        Due.refused("level(60)", x, x.level(60), 1);
        Due.yes("undo", x.undo());
        Due.is("trouble()", x.trouble(), 0);
        Due.levels("the latest told, not the latest DAY", x, 4, 50, 40, 30);
        Due.answered("DAY 59's stays", x, x.level(59), 10);
        Due.yes("undo", x.undo());
        Due.answered("DAY 59's goes", x, x.level(59), 0);
        Due.no("undo", x.undo());
        Due.is("the text's stays", x.size(1), 1);
        x.plan(0, 0);
        Due.yes("told again, it goes again", x.undo());
    }

    private static void undoLeavesAllAsItWas() {
        Due.sentence("8: undo: it goes again");
        HillTap x = Due.told("lake stands 100 moves 50 to 100;peg p push 10 bed 0;peg q push 900 bed 0;story s weighs 1 creep 99;story t weighs 1 rains 1;"
            + "from 10 level 0;from 20 level 100;rain 30 much 99;rain 31 much 10");
        // s: 99 + 900 is SPEED 99 up to DAY 9; t: GONE on DAY 31 with SPEEDS 100 and 11 at LEVEL 100
        for (int i = 0; i < 3; i++) {
            Due.answered("TAP", x, x.tap(0), 1);
            Due.answered("WAVE", x, x.wave(1), 111);
            Due.is("led(0, 1)", x.led(0, 1), 20);
            Due.is("led(1, 1)", x.led(1, 1), 30);
            x.plan(0, i);
            x.plan(12, 90);
            Due.answered("WAVE by another plan", x, x.wave(1), 111);
            Due.answered("TAP by another plan", x, x.tap(0), 0);
            x.undo();
            x.undo();
        }
    }

    private static void undoRefused() {
        Due.sentence("8: undo: false: 6 (there is none)");
        HillTap x = new HillTap();
        Due.no("without a HILL", x.undo());
        Due.is("trouble()", x.trouble(), 6);
        Due.hill(x, "lake stands 50 moves 10 to 99;from 5 level 0" + STILL);
        Due.no("the text's alone", x.undo());
        Due.is("trouble()", x.trouble(), 6);
        x.plan(0, -1);
        Due.no("a refused plan() told none", x.undo());
        x.plan(0, 0);
        Due.hill(x, "lake stands 50 moves 10 to 99" + STILL);
        Due.no("another HILL", x.undo());
        Due.is("trouble()", x.trouble(), 6);
    }

    private static void pegRefused() {
        Due.sentence("9: peg: NONE: 1");
        HillTap x = new HillTap();
        Due.refused("without a HILL", x, x.peg(0, 0, 0, 0), 1);
        Due.hill(x, "lake stands 1 moves 1 to 9;peg p push 10 bed 0;peg q push 20 bed 0;story s weighs 1 creep 0;story t weighs 1 weak 0 after 0");
        for (int far : FAR) {
            Due.refused("STORY " + far, x, x.peg(far, 0, 0, 0), 1);
            Due.refused("PEG " + far, x, x.peg(0, far, 0, 0), 1);
            Due.refused("DAY " + far, x, x.peg(0, 0, far, 0), 1);
            Due.refused("what " + far, x, x.peg(0, 0, 0, far), 1);
        }
        Due.refused("STORY 2", x, x.peg(2, 0, 0, 0), 1);
        Due.refused("PEG 2", x, x.peg(0, 2, 0, 0), 1);
        Due.refused("DAY 60", x, x.peg(0, 0, 60, 0), 1);
        Due.refused("what 3", x, x.peg(0, 0, 0, 3), 1);
        Due.answered("the last of each", x, x.peg(1, 1, 59, WORN), 120);
        Due.answered("the first of each", x, x.peg(0, 0, 0, INCHES), 1);
    }

    private static void goneAndWaveRefused() {
        Due.sentence("10, 11: gone: -2 if it isn't. gone, wave: NONE: 1");
        HillTap x = new HillTap();
        Due.refused("gone without a HILL", x, x.gone(0), 1);
        Due.refused("wave without a HILL", x, x.wave(0), 1);
        Due.hill(x, "lake stands 1 moves 1 to 9;peg p push 999 bed 0;story s weighs 1 creep 0;story t weighs 1 rains 1;rain 4 much 1");
        for (int far : FAR) {
            Due.refused("gone(" + far + ")", x, x.gone(far), 1);
            Due.refused("wave(" + far + ")", x, x.wave(far), 1);
        }
        Due.refused("gone(2)", x, x.gone(2), 1);
        Due.refused("wave(2)", x, x.wave(2), 1);
        Due.answered("-2 is no refusal", x, x.gone(0), -2);
        Due.answered("the last STORY", x, x.gone(1), 4);
        Due.answered("the last STORY", x, x.wave(1), 1);
    }
}
