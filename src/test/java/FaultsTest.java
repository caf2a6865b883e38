/** Promises 3, 4, 5 and Terms I: which texts are HILLS, and the first FAULT of those that aren't. */
public final class FaultsTest {
    private static final String SOUND = "lake stands 5 moves 1 to 9;peg p push 1 bed 1;story s weighs 1 creep 5";

    private FaultsTest() {
    }

    public static void main(String[] args) {
        tokens();
        form();
        names();
        bounds();
        many();
        allNames();
        lacks();
        Due.end();
    }

    /** The FAULT is met in what comes behind a sound HILL. */
    private static void faultBehind(String text, int fault, int place) {
        Due.fault(SOUND + ";" + text, fault, SOUND.length() + 1 + place);
    }

    private static void soundBehind(String text) {
        Due.sound(SOUND + ";" + text, 1);
    }

    private static void tokens() {
        Due.sound(SOUND, 1);
        Due.sound("  " + SOUND.replace(" ", "   ").replace(";", " ; ") + "  ", 1);
        Due.sound("lake stands5moves1to9;peg p push1bed1;story s weighs1creep5", 1);
        Due.sound(SOUND.replace("stands 5", "stands 005"), 1);
        Due.sound(SOUND.replace("peg p", "peg abcdefgh"), 1);
        Due.fault(SOUND.replace("peg p", "peg abcdefghi"), 1, 31);
        Due.fault(SOUND.replace("stands 5", "stands 0005"), 1, 12);
        Due.fault(SOUND.replace("stands 5", "stand s 5"), 1, 5);
        Due.fault("lakestands 5", 1, 0);
        Due.fault("laKe", 1, 0);
        Due.fault("lake\tstands 5", 1, 4);
        Due.fault("lake stands 5\n", 1, 13);
        Due.fault("lake stands -5", 1, 12);
        Due.fault("lake stands 5.", 1, 13);
        Due.fault("@", 1, 0);
        Due.fault(" {", 1, 1);
        Due.fault("`", 1, 0);
        Due.fault("lake stands 5/", 1, 13);
        Due.fault("lake stands 5:", 1, 13);
        Due.fault("lake \u00e4", 1, 5);
        Due.fault("lake \u0000", 1, 5);
        Due.fault("lake \u00ff", 1, 5);
        faultBehind("from 1 level 12345", 1, 13);
    }

    private static void form() {
        Due.fault("", 1, 0);
        Due.fault("   ", 1, 3);
        Due.fault(";", 1, 0);
        Due.fault(SOUND + ";", 1, SOUND.length() + 1);
        Due.fault(SOUND + "; ", 1, SOUND.length() + 2);
        Due.fault(SOUND + ";;", 1, SOUND.length() + 1);
        Due.fault(SOUND + " from", 1, SOUND.length() + 1);
        Due.fault("hill", 1, 0);
        Due.fault("5", 1, 0);
        Due.fault("lake", 1, 4);
        Due.fault("lake ", 1, 5);
        Due.fault("lake 5", 1, 5);
        Due.fault("lake stands", 1, 11);
        Due.fault("lake stands moves", 1, 12);
        Due.fault("lake stands 5 to", 1, 14);
        Due.fault("lake stands 5 moves 1 9", 1, 22);
        Due.fault("peg 5", 1, 4);
        Due.fault("peg ;", 1, 4);
        Due.fault("peg p bed 5", 1, 6);
        Due.fault("peg p push 5 5", 1, 13);
        Due.fault("from level", 1, 5);
        Due.fault("from 5 much", 1, 7);
        Due.fault("rain much", 1, 5);
        Due.fault("rain 5 level", 1, 7);
        Due.fault("story s creep 5", 1, 8);
        Due.fault("story s weighs 1 5", 1, 17);
        Due.fault("story s weighs 1 old 5", 1, 17);
        Due.fault("story s weighs 1 pressed 5;", 1, 26);
        Due.fault("story s weighs 1 pressed 5 after 5", 1, 27);
        Due.fault("story s weighs 1 weak 5 late 5", 1, 24);
        Due.fault("story s weighs 1 quick 5 after 5", 1, 25);
        Due.fault("story s weighs 1 creep 5 late 5", 1, 25);
        Due.fault("story s weighs 1 new 5 late 5", 1, 23);
        Due.fault("story s weighs 1 rains 5 late 5", 1, 25);
        Due.fault("village v people", 1, 10);
        Due.fault("village v high 1 needs", 1, 17);
        Due.fault("village v high 1 people 1 high", 1, 26);
        faultBehind("knower k p", 1, 9);
        faultBehind("knower k of 5", 1, 12);
        faultBehind("knower k of p 5", 1, 14);
        faultBehind("knower k of p", 1, 13);
        faultBehind("knower k of p reads", 1, 19);
    }

    private static void names() {
        for (String word : "lake peg from rain story village knower".split(" ")) {
            Due.fault("peg " + word + " push 1 bed 1", 1, 4);
            faultBehind("story " + word + " weighs 1 creep 1", 1, 6);
            faultBehind("knower k of " + word, 1, 12);
        }
        for (String word : "stands moves to push bed level much weighs creep new of reads high rains q".split(" ")) {
            Due.sound(SOUND.replace("peg p", "peg " + word), 1);
        }
        Due.sound(SOUND.replace("peg p", "peg zebra"), 1);
        Due.sound(SOUND.replace("peg p", "peg ab").replace("story s", "story r"), 1);
        Due.sound(SOUND.replace("peg p", "peg aa").replace("story s", "story a"), 1);
        Due.sound(SOUND.replace("peg p", "peg abcdefgh").replace("story s", "story abcdefgi"), 1);
        Due.sound(SOUND.replace("peg p", "peg bbcdefgh").replace("story s", "story abcdefgh"), 1);
        soundBehind("knower k of p reads 1");
        faultBehind("peg p", 3, 4);
        faultBehind("peg s", 3, 4);
        faultBehind("story p", 3, 6);
        faultBehind("village s", 3, 8);
        faultBehind("village v high 1 people 1 needs 1;knower v", 3, 41);
        faultBehind("knower p of p", 3, 7);
        faultBehind("knower k of p reads 1;knower k", 3, 29);
        faultBehind("knower k of k", 2, 12);
        faultBehind("knower k of s", 2, 12);
        faultBehind("knower k of q reads 1;peg q push 1 bed 1", 2, 12);
        faultBehind("knower k of pp", 2, 12);
        soundBehind("peg pp push 1 bed 1;knower k of pp reads 1");
        faultBehind("lake", 3, 0);
        faultBehind("lake stands 600", 3, 0);
        Due.fault("lake stands 0 moves 1 to 1;lake", 3, 27);
    }

    private static void bounds() {
        Due.sound(SOUND.replace("stands 5 moves 1 to 9", "stands 500 moves 50 to 500"), 1);
        Due.sound(SOUND.replace("stands 5 moves 1 to 9", "stands 0 moves 1 to 1"), 1);
        Due.sound(SOUND.replace("stands 5 moves 1 to 9", "stands 500 moves 1 to 999"), 1);
        Due.fault("lake stands 501", 4, 12);
        Due.fault("lake stands 5 moves 0", 4, 20);
        Due.fault("lake stands 5 moves 51", 4, 20);
        Due.fault("lake stands 0 moves 1 to 0", 4, 25);
        Due.fault("lake stands 9 moves 1 to 8", 4, 25);
        Due.fault("lake stands 501 @", 4, 12);
        Due.sound(SOUND.replace("push 1 bed 1", "push 999 bed 999"), 1);
        Due.sound(SOUND.replace("push 1 bed 1", "push 0 bed 0"), 1);
        soundBehind("from 0 level 0;from 59 level 999");
        faultBehind("from 60", 4, 5);
        soundBehind("rain 0 much 1;rain 59 much 99");
        faultBehind("rain 60", 4, 5);
        faultBehind("rain 0 much 0", 4, 12);
        faultBehind("rain 0 much 100", 4, 12);
        faultBehind("story t weighs 0", 4, 15);
        faultBehind("story t weighs 100", 4, 15);
        Due.sound(SOUND + ";story t weighs 99 creep 0;story u weighs 1 new 99", 3);
        for (String kind : "creep new pressed weak quick rains".split(" ")) {
            faultBehind("story t weighs 1 " + kind + " 100", 4, 18 + kind.length());
        }
        Due.sound(SOUND + ";story t weighs 1 pressed 99 late 1;story u weighs 1 pressed 0 late 20", 3);
        faultBehind("story t weighs 1 pressed 5 late 0", 4, 32);
        faultBehind("story t weighs 1 pressed 5 late 21", 4, 32);
        Due.sound(SOUND + ";story t weighs 1 weak 99 after 0;story u weighs 1 weak 0 after 999", 3);
        Due.sound(SOUND + ";story t weighs 1 quick 99 above 1;story u weighs 1 quick 0 above 99", 3);
        faultBehind("story t weighs 1 quick 5 above 0", 4, 31);
        faultBehind("story t weighs 1 quick 5 above 100", 4, 31);
        soundBehind("village v high 0 people 1 needs 0;village w high 999 people 999 needs 30");
        faultBehind("village v high 0 people 0", 4, 24);
        faultBehind("village v high 0 people 1 needs 31", 4, 32);
        soundBehind("knower k of p reads 0;knower l of p reads 999");
    }

    private static String lines(String line, int from, int count) {
        StringBuilder b = new StringBuilder();
        for (int i = 0; i < count; i++) {
            if (i > 0) b.append(';');
            b.append(line.replace('N', (char) ('a' + from + i)));
        }
        return b.toString();
    }

    private static void manyOf(String line, String word, int room) {
        String full = lines(line, 0, room);
        HillTap x = new HillTap();
        Due.is("hill with room for " + room + " of " + word, Due.hill(x, SOUND + ";" + full) > 0 ? 1 : 0, 1);
        faultBehind(full + ";" + word, 5, full.length() + 1);
        faultBehind(full + ";" + word + " @", 5, full.length() + 1);
    }

    private static void many() {
        manyOf("peg N push 1 bed 1", "peg", 4);
        manyOf("from 1 level 1", "from", 8);
        manyOf("rain 1 much 1", "rain", 6);
        manyOf("story N weighs 1 creep 1", "story", 5);
        manyOf("village N high 1 people 1 needs 1", "village", 4);
        manyOf("knower N of p reads 1", "knower", 4);
    }

    /** As many NAMES as there can be: the last of them is still looked up. */
    private static void allNames() {
        String full = "lake stands 5 moves 1 to 9;" + lines("peg N push 1 bed 1", 0, 5) + ";"
            + lines("story N weighs 1 creep 5", 5, 6) + ";" + lines("village N high 1 people 1 needs 1", 11, 4) + ";"
            + lines("knower N of e reads 1", 15, 3) + ";knower ";
        Due.sound(full + "z of e reads 1", 6);
        for (char c = 'a'; c <= 'r'; c++) {
            Due.fault(full + c, 3, full.length());
        }
    }

    private static void lacks() {
        Due.fault("peg p push 1 bed 1;story s weighs 1 creep 5", 6, 43);
        Due.fault("lake stands 5 moves 1 to 9;story s weighs 1 creep 5", 6, 51);
        Due.fault("lake stands 5 moves 1 to 9;peg p push 1 bed 1", 6, 45);
        Due.fault("peg p push 1 bed 1", 6, 18);
        Due.fault("peg p push 1 bed 1   ", 6, 21);
        Due.fault("peg p push 1 bed 1;", 1, 19);
        Due.fault("from 1 level 1", 6, 14);
    }
}
