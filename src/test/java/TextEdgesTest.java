/**
 * The boundary cases of Terms I (the text, its bounds and its FAULTS) and of promises 2 to 5: a test of its own for
 * each sentence that names one, told by Due.sentence().
 */
public final class TextEdgesTest {
    private static final String LAKE = "lake stands 5 moves 1 to 9";
    private static final String PEG = ";peg p push 1 bed 1";
    private static final String STORY = ";story s weighs 1 new 5";
    private static final String SOUND = LAKE + PEG + STORY;

    private TextEdgesTest() {
    }

    public static void main(String[] args) {
        tapeHas900Bytes();
        blanksPartTokens();
        blanksMeanNothingElse();
        wordsOfOneToEightLetters();
        smallLetters();
        wholesOfOneToThreeDigits();
        singleSemicolons();
        linesPartedBySemicolons();
        lakeBounds();
        standsAboveTo();
        pegBounds();
        fromBounds();
        rainBounds();
        storyBounds();
        kindBounds();
        eachKindTellsItsOwn();
        villageBounds();
        knowerBounds();
        room();
        roomOfEachSortIsItsOwn();
        namesAreWordsBut();
        namesToldOnce();
        namesAheadOfTheirUse();
        firstFaultFromTheLeft();
        ofOnePlaceTheLeastNumber();
        formAtTheEnd();
        formBehindEachToken();
        wordsToldLetterByLetter();
        secondLake();
        manyAtItsFirstWord();
        lacksAtTheEnd();
        feedUpTo900();
        feedHighestFirst();
        hillOfNBytes();
        hillOfNBytesCutsTokens();
        hillFromNowOn();
        hillEmptiesTheTape();
        hillRefusedByANumber();
        hillRefusedByAFault();
        hillForgetsWhatWasRead();
        faultOfTheLatest();
        whereIfTheLatestWasByAFault();
        Due.end();
    }

    private static void faultBehind(String line, int fault, int place) {
        Due.fault(SOUND + ";" + line, fault, SOUND.length() + 1 + place);
    }

    /** A WHOLE between two parts of a text that is a HILL if it is in bounds. */
    private static void bounds(String ahead, int least, int most, String behind, int stories) {
        Due.sound(ahead + least + behind, stories);
        Due.sound(ahead + most + behind, stories);
        if (least > 0) {
            Due.fault(ahead + (least - 1) + behind, 4, ahead.length());
            Due.fault(ahead + "0" + behind, 4, ahead.length());
        }
        if (most < 999) {
            Due.fault(ahead + (most + 1) + behind, 4, ahead.length());
            Due.fault(ahead + "999" + behind, 4, ahead.length());
        }
        Due.fault(ahead + "1000" + behind, 1, ahead.length());
        Due.fault(ahead + "-1" + behind, 1, ahead.length());
        Due.fault(ahead + "x" + behind, 1, ahead.length());
    }

    private static void boundsBehind(String ahead, int least, int most, String behind) {
        bounds(SOUND + ";" + ahead, least, most, behind, 1);
    }

    private static void storyBoundsBehind(String ahead, int least, int most, String behind) {
        bounds(SOUND + ";" + ahead, least, most, behind, 2);
    }

    // ---- bytes and TOKENS

    private static void tapeHas900Bytes() {
        Due.sentence("I: THE TAPE has 900 bytes");
        String text = SOUND.replace("new 5", " ".repeat(900 - SOUND.length()) + "new 5");
        HillTap x = Due.sound(text, 1);
        Due.answered("the 900th byte is k's 5", x, x.found(0, 5), 1);
        Due.answered("and no more", x, x.found(0, 6), 0);
        Due.fault(text.substring(0, 899) + "@", 1, 899);
        Due.fault(text.substring(0, 899) + " ", 1, 900);
        Due.fault(text.substring(0, 899), 1, 899);
    }

    private static void blanksPartTokens() {
        Due.sentence("I: blanks part TOKENS");
        Due.fault(SOUND.replace("lake stands", "lakestands"), 1, 0);
        Due.fault(SOUND.replace("stands", "st ands"), 1, 5);
        Due.fault(SOUND.replace("to 9", "to 9 9"), 1, 27);
        Due.fault(SOUND.replace("new 5", "ne w 5"), 1, SOUND.indexOf("new"));
    }

    private static void blanksMeanNothingElse() {
        Due.sentence("I: blanks mean nothing else");
        Due.sound("   " + SOUND + "   ", 1);
        Due.sound(SOUND.replace(" ", "    ").replace(";", "  ;  "), 1);
        Due.sound("lake stands5moves1to9;peg p push1bed1;story s weighs1new5", 1);
        for (int other : new int[] {0, 9, 10, 11, 13, 31, 33, 95, 127, 128, 160, 255}) {
            Due.fault(SOUND.replace("lake stands", "lake" + (char) other + "stands"), 1, 4);
            Due.fault(SOUND + (char) other, 1, SOUND.length());
            Due.fault((char) other + SOUND, 1, 0);
        }
    }

    private static void wordsOfOneToEightLetters() {
        Due.sentence("I: WORDS of 1 to 8 small letters that stand together");
        Due.sound(SOUND.replace("peg p", "peg q"), 1);
        Due.sound(SOUND.replace("peg p", "peg abcdefg"), 1);
        Due.sound(SOUND.replace("peg p", "peg abcdefgh"), 1);
        Due.fault(SOUND.replace("peg p", "peg abcdefghi"), 1, 31);
        Due.fault(SOUND.replace("peg p", "peg abcdefgh i"), 1, 40);
        Due.fault(SOUND.replace("peg p", "peg " + "a".repeat(500)), 1, 31);
        // 64 letters more would be the same if a WORD's letters were told by a number alone
        Due.fault(SOUND.replace("peg p", "peg " + "a".repeat(64) + "p"), 1, 31);
        Due.fault(SOUND.replace("lake", "aaaaaaaaaaaaalake"), 1, 0);
        Due.sound(SOUND.replace("peg p", "peg abcdefgh") + ";story abcdefgi weighs 1 creep 1;story bbcdefgh weighs 1 creep 1", 3);
        faultBehind("peg abcdefgh push 1 bed 1;story abcdefgh weighs 1 creep 1", 3, 32);
    }

    private static void smallLetters() {
        Due.sentence("I: small letters");
        Due.sound(SOUND.replace("peg p", "peg az").replace("story s", "story za"), 1);
        Due.fault(SOUND.replace("peg p", "peg P"), 1, 31);
        Due.fault(SOUND.replace("peg p", "peg A"), 1, 31);
        Due.fault(SOUND.replace("peg p", "peg Z"), 1, 31);
        Due.fault(SOUND.replace("peg p", "peg `"), 1, 31);
        Due.fault(SOUND.replace("peg p", "peg {"), 1, 31);
        Due.fault(SOUND.replace("peg p", "peg p`"), 1, 32);
        Due.fault(SOUND.replace("peg p", "peg p{"), 1, 32);
        Due.fault(SOUND.replace("peg p", "peg pP"), 1, 32);
        Due.fault(SOUND.replace("peg p", "peg " + (char) ('p' + 128)), 1, 31);
        Due.fault("Lake stands 5", 1, 0);
        Due.fault("lAke stands 5", 1, 0);
    }

    private static void wholesOfOneToThreeDigits() {
        Due.sentence("I: WHOLES of 1 to 3 digits that stand together");
        Due.is("stands 5", Due.sound(SOUND, 1).size(8), 5);
        Due.is("stands 05", Due.sound(SOUND.replace("stands 5", "stands 05"), 1).size(8), 5);
        Due.is("stands 005", Due.sound(SOUND.replace("stands 5", "stands 005"), 1).size(8), 5);
        Due.is("stands 0", Due.sound(SOUND.replace("stands 5", "stands 000"), 1).size(8), 0);
        Due.is("to 999", Due.sound(SOUND.replace("to 9", "to 999"), 1).size(9), 999);
        Due.is("to 190", Due.sound(SOUND.replace("to 9", "to 190"), 1).size(9), 190);
        Due.fault(SOUND.replace("stands 5", "stands 0005"), 1, 12);
        Due.fault(SOUND.replace("stands 5", "stands 0000000000000000000000005"), 1, 12);
        // 2 to the 64th and 5: the same as 5 if only a number were looked at
        Due.fault(SOUND.replace("stands 5", "stands 18446744073709551621"), 1, 12);
        Due.fault(SOUND.replace("stands 5", "stands 5/"), 1, 13);
        Due.fault(SOUND.replace("stands 5", "stands 5:"), 1, 13);
        Due.fault(SOUND.replace("stands 5", "stands /"), 1, 12);
        Due.fault(SOUND.replace("stands 5", "stands :"), 1, 12);
        Due.fault(SOUND.replace("stands 5", "stands +5"), 1, 12);
        Due.fault(SOUND.replace("stands 5", "stands " + (char) ('5' + 128)), 1, 12);
    }

    private static void singleSemicolons() {
        Due.sentence("I: single ones of ;");
        Due.fault(SOUND.replace(";peg", ";;peg"), 1, 27);
        Due.fault(SOUND.replace(";peg", ":peg"), 1, 26);
        Due.fault(SOUND.replace(";peg", ",peg"), 1, 26);
        Due.fault(SOUND.replace(";peg", "<peg"), 1, 26);
        Due.fault(SOUND.replace(";peg", (char) (';' + 128) + "peg"), 1, 26);
        Due.fault(SOUND.replace("lake stands", "lake;stands"), 1, 4);
        Due.fault(SOUND.replace("stands 5", "stands;5"), 1, 11);
    }

    private static void linesPartedBySemicolons() {
        Due.sentence("I: LINE {; LINE}");
        Due.fault("", 1, 0);
        Due.fault(" ", 1, 1);
        Due.fault(";", 1, 0);
        Due.fault(";" + SOUND, 1, 0);
        Due.fault(SOUND + ";", 1, SOUND.length() + 1);
        Due.fault(SOUND + " ;  ", 1, SOUND.length() + 4);
        Due.fault(SOUND + ";;", 1, SOUND.length() + 1);
        Due.fault(SOUND + " rain 1 much 1", 1, SOUND.length() + 1);
        Due.fault(SOUND + " 5", 1, SOUND.length() + 1);
        Due.fault(SOUND + ";hill", 1, SOUND.length() + 1);
        Due.fault(SOUND + ";pegs q push 1 bed 1", 1, SOUND.length() + 1);
        Due.fault(SOUND + ";5", 1, SOUND.length() + 1);
        Due.sound("story s weighs 1 new 5;peg p push 1 bed 1;" + LAKE, 1);
    }

    // ---- bounds of the WHOLES

    private static void lakeBounds() {
        Due.sentence("I: lake stands 0 .. 500, moves 1 .. 50, to 1 .. 999");
        bounds("lake stands ", 0, 500, " moves 1 to 999" + PEG + STORY, 1);
        bounds("lake stands 0 moves ", 1, 50, " to 999" + PEG + STORY, 1);
        bounds("lake stands 0 moves 1 to ", 1, 999, PEG + STORY, 1);
        HillTap least = Due.told("lake stands 0 moves 1 to 1;from 0 level 9" + PEG + STORY);
        Due.levels("the least", least, 0, 1, 1);
        HillTap most = Due.told("lake stands 500 moves 50 to 999;from 0 level 999" + PEG + STORY);
        Due.levels("the most", most, 0, 550, 600, 650, 700, 750, 800, 850, 900, 950, 999, 999);
    }

    private static void standsAboveTo() {
        Due.sentence("I: stands above to: at to's");
        Due.fault("lake stands 9 moves 1 to 8" + PEG + STORY, 4, 25);
        Due.fault("lake stands 500 moves 1 to 499" + PEG + STORY, 4, 27);
        Due.fault("lake stands 1 moves 1 to 0" + PEG + STORY, 4, 25);
        Due.sound("lake stands 9 moves 1 to 9" + PEG + STORY, 1);
        Due.sound("lake stands 500 moves 1 to 500" + PEG + STORY, 1);
    }

    private static void pegBounds() {
        Due.sentence("I: peg push, bed 0 .. 999 each");
        boundsBehind("peg q push ", 0, 999, " bed 1");
        boundsBehind("peg q push 1 bed ", 0, 999, "");
    }

    private static void fromBounds() {
        Due.sentence("I: from a DAY 0 .. 59 level 0 .. 999");
        boundsBehind("from ", 0, 59, " level 1");
        boundsBehind("from 1 level ", 0, 999, "");
        HillTap x = Due.told(SOUND + ";from 59 level 999;from 0 level 0");
        Due.levels("DAY 0", x, 0, 4, 3);
        Due.levels("DAY 59", x, 58, 0, 1);
    }

    private static void rainBounds() {
        Due.sentence("I: rain a DAY much 1 .. 99");
        boundsBehind("rain ", 0, 59, " much 1");
        boundsBehind("rain 1 much ", 1, 99, "");
    }

    private static void storyBounds() {
        Due.sentence("I: story weighs 1 .. 99");
        storyBoundsBehind("story t weighs ", 1, 99, " creep 1");
        HillTap x = Due.told(SOUND + ";story t weighs 99 creep 1");
        Due.answered("the least", x, x.weight(0), 1);
        Due.answered("the most", x, x.weight(1), 99);
    }

    private static void kindBounds() {
        Due.sentence("I: k 0 .. 99; late 1 .. 20, after 0 .. 999, above 1 .. 99");
        storyBoundsBehind("story t weighs 1 creep ", 0, 99, "");
        storyBoundsBehind("story t weighs 1 new ", 0, 99, "");
        storyBoundsBehind("story t weighs 1 pressed ", 0, 99, " late 1");
        storyBoundsBehind("story t weighs 1 weak ", 0, 99, " after 1");
        storyBoundsBehind("story t weighs 1 quick ", 0, 99, " above 1");
        storyBoundsBehind("story t weighs 1 rains ", 0, 99, "");
        storyBoundsBehind("story t weighs 1 pressed 1 late ", 1, 20, "");
        storyBoundsBehind("story t weighs 1 weak 1 after ", 0, 999, "");
        storyBoundsBehind("story t weighs 1 quick 1 above ", 1, 99, "");
    }

    private static void eachKindTellsItsOwn() {
        Due.sentence("I: KIND: creep, new, pressed late, weak after, quick above, or rains");
        for (String kind : "creep new rains".split(" ")) {
            for (String more : "late after above".split(" ")) {
                faultBehind("story t weighs 1 " + kind + " 1 " + more + " 1", 1, 20 + kind.length());
            }
        }
        for (String kind : "pressed weak quick".split(" ")) {
            faultBehind("story t weighs 1 " + kind + " 1", 1, 19 + kind.length());
            faultBehind("story t weighs 1 " + kind + " 1;", 1, 19 + kind.length());
            faultBehind("story t weighs 1 " + kind + " 1 1", 1, 20 + kind.length());
        }
        faultBehind("story t weighs 1 pressed 1 after 1", 1, 27);
        faultBehind("story t weighs 1 weak 1 above 1", 1, 24);
        faultBehind("story t weighs 1 quick 1 late 1", 1, 25);
        faultBehind("story t weighs 1 rain 1", 1, 17);
        faultBehind("story t weighs 1", 1, 16);
        faultBehind("story t weighs 1 creep", 1, 22);
    }

    private static void villageBounds() {
        Due.sentence("I: village high 0 .. 999, people 1 .. 999, needs 0 .. 30");
        boundsBehind("village v high ", 0, 999, " people 1 needs 1");
        boundsBehind("village v high 1 people ", 1, 999, " needs 1");
        boundsBehind("village v high 1 people 1 needs ", 0, 30, "");
    }

    private static void knowerBounds() {
        Due.sentence("I: knower reads 0 .. 999");
        boundsBehind("knower k of p reads ", 0, 999, "");
    }

    // ---- room for LINES

    private static String lines(String line, int count) {
        StringBuilder b = new StringBuilder();
        for (int i = 0; i < count; i++) {
            b.append(';').append(line.replace("NAME", "" + (char) ('a' + i) + line.charAt(0)));
        }
        return b.toString();
    }

    private static void roomFor(int what, int most, String line) {
        String full = LAKE + lines(line, most);
        String rest = what == 0 ? STORY : what == 3 ? PEG : PEG + STORY;
        int stories = what == 3 ? most : 1;
        Due.is("size(" + what + ") of «" + line + "»", Due.sound(full + rest, stories).size(what), most);
        Due.fault(full + lines(line, most + 1).substring(full.length() - LAKE.length()) + rest, 5, full.length() + 1);
    }

    private static void room() {
        Due.sentence("I: up to 5 pegs, 8 froms, 6 rains, 6 stories, 4 villages, 4 knowers");
        roomFor(0, 5, "peg NAME push 1 bed 1");
        roomFor(1, 8, "from 1 level 1");
        roomFor(2, 6, "rain 1 much 1");
        roomFor(3, 6, "story NAME weighs 1 creep 1");
        roomFor(4, 4, "village NAME high 1 people 1 needs 1");
        String full = LAKE + PEG + STORY + lines("knower NAME of p reads 1", 4);
        Due.is("size(5)", Due.sound(full, 1).size(5), 4);
        Due.fault(full + ";knower x of p reads 1", 5, full.length() + 1);
    }

    private static void roomOfEachSortIsItsOwn() {
        Due.sentence("I: MANY: a LINE more of its sort than there is room for");
        HillTap x = Due.sound(LAKE + lines("peg NAME push 1 bed 1", 5) + lines("from 1 level 1", 8) + lines("rain 1 much 1", 6)
            + lines("story NAME weighs 1 creep 1", 6) + lines("village NAME high 1 people 1 needs 1", 4)
            + lines("knower NAME of ap reads 1", 4), 6);
        int[] due = {5, 8, 6, 6, 4, 4};
        for (int what = 0; what < due.length; what++) {
            Due.is("size(" + what + ")", x.size(what), due[what]);
        }
    }

    // ---- NAMES

    private static void namesAreWordsBut() {
        Due.sentence("I: NAMES are WORDS but lake, peg, from, rain, story, village, knower");
        for (String word : "lake peg from rain story village knower".split(" ")) {
            faultBehind("peg " + word + " push 1 bed 1", 1, 4);
            faultBehind("story " + word + " weighs 1 creep 1", 1, 6);
            faultBehind("village " + word + " high 1 people 1 needs 1", 1, 8);
            faultBehind("knower " + word + " of p reads 1", 1, 7);
            Due.sound(SOUND.replace("peg p", "peg " + word + "s"), 1);
            Due.sound(SOUND.replace("peg p", "peg " + word.substring(1)), 1);
            Due.sound(SOUND.replace("peg p", "peg " + word.substring(0, word.length() - 1)), 1);
        }
        for (String word : ("stands moves to push bed level much weighs creep new pressed late weak after quick above rains "
            + "high people needs of reads").split(" ")) {
            Due.sound(SOUND.replace("peg p", "peg " + word) + ";knower k of " + word + " reads 1", 1);
            Due.sound(SOUND + ";village " + word + " high 1 people 1 needs 1", 1);
        }
        faultBehind("peg 5 push 1 bed 1", 1, 4);
        faultBehind("peg ; push 1 bed 1", 1, 4);
        faultBehind("peg", 1, 3);
    }

    private static void namesToldOnce() {
        Due.sentence("I: 3 a NAME told again; at it");
        String[] lines = {"peg NAME push 1 bed 1", "story NAME weighs 1 creep 1", "village NAME high 1 people 1 needs 1", "knower NAME of p reads 1"};
        for (String first : lines) {
            for (String second : lines) {
                String ahead = first.replace("NAME", "x") + ";";
                faultBehind(ahead + second.replace("NAME", "x"), 3, ahead.length() + second.indexOf("NAME"));
                Due.is("x and xx", Due.hill(new HillTap(), SOUND + ";" + ahead + second.replace("NAME", "xx")) > 0 ? 1 : 0, 1);
            }
        }
        String full = LAKE + lines("peg NAME push 1 bed 1", 5) + lines("story NAME weighs 1 creep 1", 6)
            + lines("village NAME high 1 people 1 needs 1", 4) + lines("knower NAME of ap reads 1", 3);
        for (String name : "ap ep as fs av dv ak ck".split(" ")) {
            Due.fault(full + ";knower " + name + " of ap reads 1", 3, full.length() + 8);
        }
        Due.sound(full + ";knower dk of ap reads 1", 6);
        // A NAME's use tells it no second time.
        Due.sound(SOUND + ";knower k of p reads 1;knower l of p reads 1", 1);
        // The NAMES of an earlier text are told no more.
        HillTap x = Due.told(SOUND);
        Due.answered("the same NAMES in another text", x, Due.hill(x, SOUND), 1);
        Due.refused("no PEG", x, Due.hill(x, "knower k of p"), 4);
        Due.is("an earlier text's PEG", x.fault(), 2);
    }

    private static void namesAheadOfTheirUse() {
        Due.sentence("I: 2 a NAME that isn't a PEG's; at it");
        faultBehind("knower k of q reads 1", 2, 12);
        faultBehind("knower k of q reads 1;peg q push 1 bed 1", 2, 12);
        faultBehind("knower k of k reads 1", 2, 12);
        faultBehind("knower k of s reads 1", 2, 12);
        faultBehind("village v high 1 people 1 needs 1;knower k of v reads 1", 2, 46);
        faultBehind("knower j of p reads 1;knower k of j reads 1", 2, 34);
        faultBehind("knower k of pp reads 1", 2, 12);
        HillTap x = Due.sound(LAKE + lines("peg NAME push 1 bed 1", 5) + STORY + ";knower k of ap reads 1;knower l of ep reads 1", 1);
        x.read(0, 3, 1, 0);
        x.read(4, 5, 1, 0);
        Due.answered("the first PEG", x, x.knew(0), 3);
        Due.answered("the last PEG", x, x.knew(1), 5);
    }

    // ---- FAULTS

    private static void firstFaultFromTheLeft() {
        Due.sentence("I: FAULTS, the first that is met from the left");
        Due.fault("peg p push 1 bed 1;story t weighs 0 creep 5 @", 4, 34);
        Due.fault("lake stands 501 moves 51 to 0", 4, 12);
        Due.fault("peg p push 1 bed 1;peg p push", 3, 23);
        Due.fault("knower k of p 5", 2, 12);
        Due.fault("lake stands 5 moves 1 to 9;lake stands @", 3, 27);
        Due.fault(LAKE + lines("peg NAME push 1 bed 1", 5) + ";peg ap", 5, LAKE.length() + lines("peg NAME push 1 bed 1", 5).length() + 1);
        Due.fault("@ lake stands 501", 1, 0);
        Due.fault("lake stands 5 moves @ 51", 1, 20);
        Due.fault("peg p push 1 bed 1 @", 1, 19);
    }

    private static void ofOnePlaceTheLeastNumber() {
        Due.sentence("I: FAULTS, of one place the least number");
        // FORM and LACKS
        Due.fault("lake stands 5 moves 1 to", 1, 24);
        Due.fault(LAKE + ";", 1, 27);
        Due.fault("", 1, 0);
        // FORM and a NAME that isn't a PEG's
        for (String word : "lake peg from rain story village knower".split(" ")) {
            faultBehind("knower k of " + word + " reads 1", 1, 12);
        }
        faultBehind("knower k of abcdefghi reads 1", 1, 12);
        // FORM and a WHOLE out of bounds
        Due.fault("lake stands 5010", 1, 12);
        // a second lake and a LINE more than there is room for
        faultBehind("lake", 3, 0);
    }

    private static void formAtTheEnd() {
        Due.sentence("I: 1 FORM: TOKEN with which no HILL goes on (the end: its place)");
        String line = "knower k of p reads 1";
        for (String cut : new String[] {"", "knower", "knower k", "knower k of", "knower k of p", "knower k of p reads"}) {
            faultBehind(cut, 1, cut.length());
            faultBehind(cut + "  ", 1, cut.length() + 2);
        }
        // cut in the midst of a WORD, which is another WORD then
        faultBehind(line.substring(0, 5), 1, 0);
        faultBehind(line.substring(0, 10), 1, 9);
        faultBehind(line.substring(0, 18), 1, 14);
        Due.sound(SOUND + ";" + line, 1);
    }

    /** One LINE of each sort and KIND that may come behind SOUND. */
    private static final String[] MORE = {"peg q push 1 bed 1", "from 1 level 1", "rain 1 much 1", "story t weighs 1 creep 1", "story t weighs 1 new 1",
        "story t weighs 1 pressed 1 late 1", "story t weighs 1 weak 1 after 1", "story t weighs 1 quick 1 above 1", "story t weighs 1 rains 1",
        "village v high 1 people 1 needs 1", "knower k of p reads 1"};

    private static void formBehindEachToken() {
        Due.sentence("I: 1 FORM: the first byte that begins no TOKEN, or TOKEN with which no HILL goes on");
        for (String line : MORE) {
            String[] tokens = line.split(" ");
            String ahead = "";
            for (int i = 0; i < tokens.length; i++) {
                if (i > 0) {
                    String bare = ahead.substring(0, ahead.length() - 1);
                    faultBehind(bare, 1, bare.length());
                    faultBehind(bare + ";" + MORE[1], 1, bare.length());
                }
                boolean whole = tokens[i].equals("1");
                faultBehind(ahead + (whole ? "x" : "5"), 1, ahead.length());
                faultBehind(ahead + "@", 1, ahead.length());
                faultBehind(ahead + ";", 1, ahead.length());
                ahead += tokens[i] + " ";
            }
            faultBehind(ahead + "5", 1, ahead.length());
            faultBehind(ahead + "x", 1, ahead.length());
            Due.is("«" + line + "»", Due.hill(new HillTap(), SOUND + ";" + line) > 0 ? 1 : 0, 1);
        }
        for (String cut : new String[] {"lake", "lake stands", "lake stands 5", "lake stands 5 moves", "lake stands 5 moves 1", "lake stands 5 moves 1 to"}) {
            Due.fault(cut, 1, cut.length());
            Due.fault(cut + ";", 1, cut.length());
            Due.fault(cut + " @", 1, cut.length() + 1);
            Due.fault(cut + (Character.isDigit(cut.charAt(cut.length() - 1)) || cut.equals("lake") ? " 5" : " x"), 1, cut.length() + 1);
        }
    }

    private static void wordsToldLetterByLetter() {
        Due.sentence("I: LINE, one of: its WORDS are told whole, and letter by letter");
        for (String line : MORE) {
            String ahead = "";
            for (String token : line.split(" ")) {
                boolean told = token.length() > 1;
                for (int i = 0; told && i < token.length(); i++) {
                    faultBehind(ahead + token.substring(0, i) + 'x' + token.substring(i + 1), 1, ahead.length());
                }
                if (told) {
                    faultBehind(ahead + token + "x", 1, ahead.length());
                    faultBehind(ahead + token.substring(1), 1, ahead.length());
                    faultBehind(ahead + token.substring(0, token.length() - 1), 1, ahead.length());
                }
                ahead += token + " ";
            }
        }
    }

    private static void secondLake() {
        Due.sentence("I: 3 a second lake; at that WORD");
        Due.fault(LAKE + ";" + LAKE + PEG + STORY, 3, 27);
        faultBehind(LAKE, 3, 0);
        faultBehind("  lake", 3, 2);
        HillTap x = Due.told(SOUND);
        Due.answered("in another text it is the first", x, Due.hill(x, SOUND), 1);
    }

    private static void manyAtItsFirstWord() {
        Due.sentence("I: 5 MANY, at its first WORD");
        String[] full = {lines("peg NAME push 1 bed 1", 4), lines("from 1 level 1", 8), lines("rain 1 much 1", 6),
            lines("story NAME weighs 1 creep 1", 5), lines("village NAME high 1 people 1 needs 1", 4), lines("knower NAME of p reads 1", 4)};
        String[] words = {"peg", "from", "rain", "story", "village", "knower"};
        for (int i = 0; i < words.length; i++) {
            Due.fault(SOUND + full[i] + ";  " + words[i], 5, SOUND.length() + full[i].length() + 3);
            Due.fault(SOUND + full[i] + ";  " + words[i] + " @", 5, SOUND.length() + full[i].length() + 3);
            Due.fault(SOUND + full[i] + ";" + words[i] + "s", 1, SOUND.length() + full[i].length() + 1);
        }
    }

    private static void lacksAtTheEnd() {
        Due.sentence("I: 6 LACKS, at the end: no lake, no peg, no story");
        Due.fault(LAKE + PEG, 6, LAKE.length() + PEG.length());
        Due.fault(LAKE + STORY, 6, LAKE.length() + STORY.length());
        Due.fault((PEG + STORY).substring(1), 6, PEG.length() + STORY.length() - 1);
        Due.fault(LAKE, 6, LAKE.length());
        Due.fault("from 1 level 1  ", 6, 16);
        Due.fault("rain 1 much 1", 6, 13);
        Due.fault("village v high 1 people 1 needs 1", 6, 33);
        Due.sound(SOUND, 1);
    }

    // ---- promises 2 to 5

    private static void feedUpTo900() {
        Due.sentence("2: NONE, and none comes, if there would be more than 900");
        HillTap x = new HillTap();
        for (int i = 1; i <= 45; i++) {
            Due.is("feed the " + i + "th", x.feed(0x20202020, 0x20202020, 0x20202020, 0x20202020, i == 45 ? 0x20202040 : 0x20202020), 20 * i);
        }
        Due.is("feed the 46th", x.feed(0x40404040, 0, 0, 0, 0), -1);
        Due.is("feed the 47th", x.feed(0x40404040, 0, 0, 0, 0), -1);
        Due.is("bytes", x.size(7), 900);
        Due.refused("hill(901)", x, x.hill(901), 2);
        Due.refused("hill(900)", x, x.hill(900), 4);
        Due.is("the 900th byte is still the one fed", x.where(), 899);
        Due.is("room again", x.feed(0, 0, 0, 0, 0), 20);
    }

    private static void feedHighestFirst() {
        Due.sentence("2: twenty bytes come behind THE TAPE, of each number the highest first");
        for (int number = 0; number < 5; number++) {
            for (int b = 0; b < 4; b++) {
                int[] n = {0x20202020, 0x20202020, 0x20202020, 0x20202020, 0x20202020};
                n[number] ^= (0x20 ^ 0x80) << 8 * (3 - b);
                HillTap x = new HillTap();
                x.feed(0x20202020, 0x20202020, 0x20202020, 0x20202020, 0x20202020);
                Due.is("feed", x.feed(n[0], n[1], n[2], n[3], n[4]), 40);
                x.hill(40);
                Due.is("byte 128 at " + (4 * number + b), x.where(), 20 + 4 * number + b);
            }
        }
    }

    private static void hillOfNBytes() {
        Due.sentence("3: the first n bytes of THE TAPE are the HILL from now on: how many STORIES");
        HillTap x = new HillTap();
        Due.feed(x, SOUND + "9;@");
        Due.answered("all but three bytes", x, x.hill(SOUND.length()), 1);
        Due.answered("k is 5, not 59", x, x.found(0, 6), 0);
        Due.feed(x, SOUND + "9;@");
        Due.answered("all but two bytes", x, x.hill(SOUND.length() + 1), 1);
        Due.answered("k is 59", x, x.found(0, 59), 1);
        Due.feed(x, SOUND + ";story t weighs 1 creep 1");
        Due.answered("two", x, x.hill(SOUND.length() + 25), 2);
        Due.answered("a second STORY", x, x.gone(1), -2);
        HillTap none = new HillTap();
        Due.refused("hill(0) of an empty TAPE", none, none.hill(0), 4);
        Due.feed(none, SOUND);
        Due.refused("hill(0) of a TAPE", none, none.hill(0), 4);
        Due.is("FORM", none.fault(), 1);
        Due.is("at the end", none.where(), 0);
    }

    /** What stands on THE TAPE behind the first n bytes is of no account, wherever they end. */
    private static void hillOfNBytesCutsTokens() {
        Due.sentence("3: the first n bytes, in the midst of a TOKEN too");
        String text = SOUND + ";village vvvvvvvv high 999 people 999 needs 30;knower k of p reads 999";
        for (int n = 0; n <= text.length(); n++) {
            HillTap cut = new HillTap();
            Due.feed(cut, text);
            HillTap alone = new HillTap();
            Due.is("hill(" + n + ")", cut.hill(n), Due.hill(alone, text.substring(0, n)));
            Due.is("hill(" + n + "), then fault()", cut.fault(), alone.fault());
            Due.is("hill(" + n + "), then where()", cut.where(), alone.where());
        }
        HillTap x = new HillTap();
        Due.feed(x, LAKE + ";pegs");
        x.hill(LAKE.length() + 4);
        Due.is("peg, not pegs: FORM at the end", x.where(), LAKE.length() + 4);
        Due.feed(x, LAKE + ";pegs");
        x.hill(LAKE.length() + 5);
        Due.is("pegs: FORM at it", x.where(), LAKE.length() + 1);
    }

    private static void hillFromNowOn() {
        Due.sentence("3: the HILL from now on: nothing is left of those ahead, nor of a text with a FAULT");
        String full = "lake stands 3 moves 9 to 7;peg a push 9 bed 0;peg b push 9 bed 0;rain 2 much 9;from 0 level 9;from 1 level 8;"
            + "story q weighs 9 rains 9;story r weighs 9 creep 9;village w high 9 people 9 needs 9;knower k of a reads 1";
        HillTap x = Due.told(full);
        x.plan(3, 3);
        for (int i = 0; i < 4; i++) {
            Due.answered("a full one", x, Due.hill(x, full), 2);
            x.plan(3, 3);
            if (i > 1) {
                Due.refused("one with a FAULT", x, Due.hill(x, full + ";@"), 4);
            }
            Due.answered("a bare one", x, Due.hill(x, SOUND.replace("new 5", "rains 9")), 1);
            int[] due = {1, 0, 0, 1, 0, 0, 0, 0, 5, 9};
            for (int what = 0; what < due.length; what++) {
                Due.is("size(" + what + ")", x.size(what), due[what]);
            }
            Due.no("nothing to undo", x.undo());
            Due.levels("no from", x, 0, 5, 5, 5, 5);
            Due.pegs("no rain", x, 0, 0, 1, 0, 0, 0, 0, 0);
        }
    }

    private static void hillEmptiesTheTape() {
        Due.sentence("3: (THE TAPE is empty then)");
        HillTap x = new HillTap();
        Due.feed(x, SOUND);
        x.hill(SOUND.length());
        Due.is("bytes", x.size(7), 0);
        Due.refused("hill(1)", x, x.hill(1), 2);
        Due.is("the next twenty", x.feed(0, 0, 0, 0, 0), 20);
        x.hill(3);
        Due.is("by 4 too", x.size(7), 0);
        x.feed(0, 0, 0, 0, 0);
        x.hill(0);
        Due.is("by n of 0 too", x.size(7), 0);
    }

    private static void hillRefusedByANumber() {
        Due.sentence("3: NONE: 2 (THE TAPE stays)");
        HillTap x = Due.told(SOUND);
        x.read(0, 0, 0, 0);
        x.plan(3, 3);
        Due.feed(x, SOUND + ";story t weighs 1 creep 1");
        int bytes = x.size(7);
        for (int n : new int[] {-1, bytes + 1, Integer.MIN_VALUE, Integer.MAX_VALUE}) {
            Due.refused("hill(" + n + ")", x, x.hill(n), 2);
            Due.is("bytes", x.size(7), bytes);
        }
        Due.is("READ", x.size(6), 1);
        Due.is("froms", x.size(1), 1);
        Due.is("STORIES", x.size(3), 1);
        Due.answered("what was fed is still there", x, x.hill(bytes), 2);
    }

    private static void hillRefusedByAFault() {
        Due.sentence("3: NONE: 4 (the HILL stays)");
        HillTap x = Due.told(SOUND + ";rain 1 much 9;village v high 0 people 1 needs 0;knower k of p reads 1");
        x.read(0, 0, 0, 0);
        x.plan(3, 3);
        String other = "lake stands 3 moves 9 to 7;peg a push 9 bed 0;peg b push 9 bed 0;rain 2 much 9;from 0 level 9;"
            + "story q weighs 9 rains 9;story r weighs 9 creep 9;village w high 9 people 9 needs 9;@";
        Due.refused("a text with a FAULT at its end", x, Due.hill(x, other), 4);
        int[] due = {1, 1, 1, 1, 1, 1, 1, 0, 5, 9};
        for (int what = 0; what < due.length; what++) {
            Due.is("size(" + what + ")", x.size(what), due[what]);
        }
        Due.levels("the plan stays", x, 2, 5, 4, 3, 3);
        Due.answered("the STORY stays", x, x.weight(0), 1);
        Due.answered("the STORY stays", x, x.found(0, 5), 1);
        Due.yes("undo", x.undo());
        Due.no("undo", x.undo());
        HillTap none = new HillTap();
        Due.refused("a text with a FAULT at its end", none, Due.hill(none, other), 4);
        for (int what = 0; what < due.length; what++) {
            Due.is("without a HILL: size(" + what + ")", none.size(what), 0);
        }
        Due.refused("still no HILL", none, none.level(0), 1);
    }

    private static void hillForgetsWhatWasRead() {
        Due.sentence("3: (nothing is READ)");
        HillTap x = Due.told(SOUND);
        x.read(0, 0, 99, 0);
        x.read(0, 0, 99, 0);
        Due.answered("none fit", x, x.fits(), 0);
        Due.answered("the same text again", x, Due.hill(x, SOUND), 1);
        Due.is("READ", x.size(6), 0);
        Due.answered("all fit", x, x.fits(), 1);
        Due.is("forget", x.forget(), 0);
        x.plan(3, 3);
        Due.hill(x, SOUND);
        Due.is("nothing is planned either", x.size(1), 0);
        Due.no("undo", x.undo());
    }

    private static void faultOfTheLatest() {
        Due.sentence("4: the FAULT of the latest hill() not refused by 2; 0 without one");
        HillTap x = new HillTap();
        Due.is("new", x.fault(), 0);
        x.hill(1);
        Due.is("refused by 2 alone", x.fault(), 0);
        String[] texts = {"@", "knower k of p", "peg p push 1 bed 1;peg p", "from 60", SOUND + lines("from 1 level 1", 9), LAKE};
        for (int i = 0; i < texts.length; i++) {
            Due.hill(x, texts[i]);
            Due.is("of «" + texts[i] + "»", x.fault(), i + 1);
            x.hill(99);
            Due.is("by 2 it stays", x.fault(), i + 1);
            x.level(0);
            Due.is("by another call it stays", x.fault(), i + 1);
        }
        Due.hill(x, SOUND);
        Due.is("without one", x.fault(), 0);
        x.hill(-1);
        Due.is("by 2 it stays 0", x.fault(), 0);
    }

    private static void whereIfTheLatestWasByAFault() {
        Due.sentence("5: its place, if the latest call that may be refused was by 4; NONE else");
        HillTap x = new HillTap();
        Due.is("new", x.where(), -1);
        Due.hill(x, "lake @");
        Due.is("by 4", x.where(), 5);
        Due.is("asked again", x.where(), 5);
        x.fault();
        x.trouble();
        x.size(7);
        x.forget();
        x.feed(0, 0, 0, 0, 0);
        Due.noLed("led", x, 0, 0);
        Due.is("behind calls that can't be refused by a number", x.where(), 5);
        x.hill(21);
        Due.is("by 2", x.where(), -1);
        Due.is("the FAULT is still told", x.fault(), 1);
        Due.hill(x, "lake @");
        x.level(0);
        Due.is("by 1", x.where(), -1);
        Due.hill(x, "lake @");
        x.undo();
        Due.is("by 6", x.where(), -1);
        Due.hill(x, "lake @");
        Due.hill(x, SOUND);
        Due.is("without a FAULT", x.where(), -1);
        Due.hill(x, "");
        Due.is("place 0", x.where(), 0);
        x.level(0);
        Due.is("a call that wasn't refused", x.where(), -1);
    }
}
