import java.util.Arrays;
import java.util.NoSuchElementException;

/**
 * A hill that creeps into a lake, told as a text, and what the stories of why it creeps say of it.
 * The words in capitals are those of the document, ../shared/DOC.md.
 */
public final class HillTap {
    public static final int NONE = -1;

    /** The answer of a call that isn't refused where the document says -2. */
    private static final int NEVER = -2;

    private static final int DAYS = 60;
    private static final int MAX_TAPE = 900;
    private static final int MAX_PEGS = 5;
    private static final int MAX_TOLD_FROMS = 8;
    private static final int MAX_FROMS = 16;
    private static final int MAX_RAINS = 6;
    private static final int MAX_STORIES = 6;
    private static final int MAX_VILLAGES = 4;
    private static final int MAX_KNOWERS = 4;
    private static final int MAX_READ = 24;
    private static final int MAX_DEPTH = 99;
    private static final int MAX_OFF = 20;

    private static final int NO_TROUBLE = 0;
    private static final int NONE_SUCH = 1;
    private static final int WRONG_NUMBER = 2;
    private static final int NO_ROOM = 3;
    private static final int FAULTY = 4;
    private static final int NOTHING = 6;

    private static final int FORM = 1;
    private static final int NO_PEG = 2;
    private static final int AGAIN = 3;
    private static final int BOUNDS = 4;
    private static final int MANY = 5;
    private static final int LACKS = 6;

    private static final int CREEP = 0;
    private static final int NEW = 1;
    private static final int PRESSED = 2;
    private static final int WEAK = 3;
    private static final int QUICK = 4;
    private static final int RAINS = 5;

    private final Tape tape;
    private final Teller teller;
    /** Without a HILL all its counts are 0. */
    private Hill hill;
    /** A text is told into this one, so that the HILL stays if the text has a FAULT. */
    private Hill spare;
    private final int[] levels;
    /** What each STORY says by the plan; worked out when it is first asked for. */
    private final Course[] courses;
    private final boolean[] known;
    private final int[] tryLevels;
    private final Course tryCourse;
    private final Readings readings;
    /** The first DAY on which what was READ isn't what each STORY says; DAYS if there is none. */
    private final int[] misfits;
    /** What each STORY finds at the depth that is looked at; NONE if it doesn't fit. */
    private final int[] finds;
    private int trouble;

    public HillTap() {
        tape = new Tape();
        teller = new Teller(tape);
        hill = new Hill();
        spare = new Hill();
        levels = new int[DAYS];
        courses = new Course[MAX_STORIES];
        for (int i = 0; i < MAX_STORIES; i++) {
            courses[i] = new Course();
        }
        known = new boolean[MAX_STORIES];
        tryLevels = new int[DAYS];
        tryCourse = new Course();
        readings = new Readings();
        misfits = new int[MAX_STORIES];
        finds = new int[MAX_STORIES];
        trouble = NO_TROUBLE;
    }

    // ---- the hill

    public int feed(int a, int b, int c, int d, int e) {
        if (tape.length > MAX_TAPE - 20) {
            return NONE;
        }
        tape.add(a);
        tape.add(b);
        tape.add(c);
        tape.add(d);
        tape.add(e);
        return tape.length;
    }

    public int hill(int n) {
        if (n < 0 || n > tape.length) {
            return refuse(WRONG_NUMBER);
        }
        boolean faultless = teller.tellHill(n, spare);
        tape.length = 0;
        if (!faultless) {
            return refuse(FAULTY);
        }
        Hill old = hill;
        hill = spare;
        spare = old;
        readings.count = 0;
        planAnew();
        return answer(hill.stories);
    }

    public int fault() {
        return teller.fault;
    }

    public int where() {
        return trouble == FAULTY ? teller.faultPlace : NONE;
    }

    // ---- days

    public int level(int day) {
        if (noHill() || !isDay(day)) {
            return refuse(NONE_SUCH);
        }
        return answer(levels[day]);
    }

    public int plan(int day, int level) {
        if (noHill()) {
            return refuse(NONE_SUCH);
        }
        if (!isDay(day) || level < 0 || level > 999) {
            return refuse(WRONG_NUMBER);
        }
        Lake lake = hill.lake;
        if (lake.froms >= MAX_FROMS) {
            return refuse(NO_ROOM);
        }
        lake.addFrom(day, level);
        lake.planned++;
        planAnew();
        return answer(lake.froms);
    }

    public boolean undo() {
        Lake lake = hill.lake;
        if (lake.planned <= 0) {
            trouble = NOTHING;
            return false;
        }
        lake.planned--;
        lake.froms--;
        planAnew();
        trouble = NO_TROUBLE;
        return true;
    }

    public int peg(int story, int peg, int day, int what) {
        if (!isPegDay(story, peg, day)) {
            return refuse(NONE_SUCH);
        }
        Course course = courseOf(story);
        switch (what) {
            case 0:
                return answer(course.inches[row(peg, day)]);
            case 1:
                return answer(course.speeds[row(peg, day)]);
            case 2:
                return answer(course.worn[row(peg, day)]);
            default:
                return refuse(NONE_SUCH);
        }
    }

    public int gone(int story) {
        if (!isStory(story)) {
            return refuse(NONE_SUCH);
        }
        return answer(courseOf(story).gone);
    }

    public int wave(int story) {
        if (!isStory(story)) {
            return refuse(NONE_SUCH);
        }
        return answer(courseOf(story).wave);
    }

    // ---- what was read

    public int read(int peg, int day, int inches, int off) {
        if (!isPeg(peg) || !isDay(day)) {
            return refuse(NONE_SUCH);
        }
        if (inches < 0 || inches > 99999 || off < 0 || off > 999) {
            return refuse(WRONG_NUMBER);
        }
        if (readings.count >= MAX_READ) {
            return refuse(NO_ROOM);
        }
        readings.add(peg, day, inches, off);
        return answer(readings.count);
    }

    public int forget() {
        int were = readings.count;
        readings.count = 0;
        return were;
    }

    public int fits() {
        if (noHill()) {
            return refuse(NONE_SUCH);
        }
        findFits();
        return answer(countFitsUpTo(DAYS - 1));
    }

    public int fit(int i) {
        findFits();
        int ahead = 0;
        for (int story = 0; story < hill.stories; story++) {
            if (isFit(story)) {
                if (ahead == i) {
                    return answer(story);
                }
                ahead++;
            }
        }
        return refuse(NONE_SUCH);
    }

    public int weight(int story) {
        if (story != NONE && !isStory(story)) {
            return refuse(NONE_SUCH);
        }
        findFits();
        if (story == NONE) {
            return answer(weightOfFits());
        }
        return answer(isFit(story) ? hill.story[story].weighs : 0);
    }

    public int clear() {
        if (noHill()) {
            return refuse(NONE_SUCH);
        }
        findFits();
        for (int day = 0; day < DAYS; day++) {
            if (countFitsUpTo(day) == 1) {
                return answer(day);
            }
        }
        return answer(NEVER);
    }

    // ---- tap, line

    public int lettings() {
        if (noHill()) {
            return refuse(NONE_SUCH);
        }
        return answer(countLettings());
    }

    public int tap(int story) {
        if (!isStory(story)) {
            return refuse(NONE_SUCH);
        }
        return answer(tapOf(story));
    }

    public int fooled(int n) {
        if (noHill()) {
            return refuse(NONE_SUCH);
        }
        if (n < 0) {
            return refuse(WRONG_NUMBER);
        }
        if (countLettings() <= n) {
            return answer(NEVER);
        }
        for (int story = 0; story < hill.stories; story++) {
            if (tapOf(story) == n) {
                return answer(story);
            }
        }
        return answer(NEVER);
    }

    public int nought(int story, int peg, int day) {
        if (!isPegDay(story, peg, day) || day >= DAYS - 1) {
            return refuse(NONE_SUCH);
        }
        Course course = courseOf(story);
        int first = course.speeds[row(peg, day)];
        int second = course.speeds[row(peg, day + 1)];
        return answer(noughtBy(day, first, second));
    }

    public int span(int story, int peg, int day, int off, boolean most) {
        if (!isPegDay(story, peg, day) || day >= DAYS - 1) {
            return refuse(NONE_SUCH);
        }
        if (off < 0 || off > MAX_OFF) {
            return refuse(WRONG_NUMBER);
        }
        Course course = courseOf(story);
        int first = course.speeds[row(peg, day)];
        int second = course.speeds[row(peg, day + 1)];
        int best = NEVER;
        for (int i = -1; i <= 1; i++) {
            for (int j = -1; j <= 1; j++) {
                int nought = noughtBy(day, first + i * off, second + j * off);
                if (nought != NEVER && (best == NEVER || (most ? nought > best : nought < best))) {
                    best = nought;
                }
            }
        }
        return answer(best);
    }

    // ---- letting down

    public int helps(int story, int day) {
        if (!isStory(story) || !isDay(day)) {
            return refuse(NONE_SUCH);
        }
        return answer(staysIfDownFrom(story, day) ? 1 : 0);
    }

    public int last(int story) {
        if (!isStory(story)) {
            return refuse(NONE_SUCH);
        }
        // By halves: letting down a DAY later leaves no LEVEL lower and no ADD less,
        // so that all DAYS ahead of one that HELPS help too.
        int best = NONE;
        int high = DAYS - 1;
        for (int tries = 0; tries < DAYS && best < high; tries++) {
            int middle = (best + high + 1) / 2;
            if (staysIfDownFrom(story, middle)) {
                best = middle;
            } else {
                high = middle - 1;
            }
        }
        return answer(best == NONE ? NEVER : best);
    }

    public int safe(int story) {
        if (!isStory(story)) {
            return refuse(NONE_SUCH);
        }
        // By halves: a higher GOAL leaves no LEVEL lower, no rise and no ADD less,
        // so that all GOALS below a SAFE one leave the HILL where it is.
        int best = NONE;
        int high = hill.lake.to;
        for (int tries = 0; tries < 1000 && best < high; tries++) {
            int middle = (best + high + 1) / 2;
            if (staysIfSteady(story, middle)) {
                best = middle;
            } else {
                high = middle - 1;
            }
        }
        return answer(best == NONE ? NEVER : best);
    }

    // ---- bores

    public int found(int story, int depth) {
        if (!isStory(story)) {
            return refuse(NONE_SUCH);
        }
        if (depth < 0 || depth > MAX_DEPTH) {
            return refuse(WRONG_NUMBER);
        }
        return answer(hill.story[story].findsAt(depth));
    }

    public int bore() {
        if (noHill()) {
            return refuse(NONE_SUCH);
        }
        findFits();
        if (weightOfFits() == 0) {
            return refuse(NOTHING);
        }
        int best = 0;
        int least = greatestAlike(0);
        for (int depth = 1; depth <= MAX_DEPTH; depth++) {
            int alike = greatestAlike(depth);
            if (alike < least) {
                least = alike;
                best = depth;
            }
        }
        return answer(best);
    }

    // ---- villages

    public int struck(int story, int village) {
        if (!isStory(story) || !isVillage(village)) {
            return refuse(NONE_SUCH);
        }
        return answer(strikes(story, village) ? 1 : 0);
    }

    public int dead(int story, int day) {
        if (!isStory(story) || !isDay(day)) {
            return refuse(NONE_SUCH);
        }
        int gone = courseOf(story).gone;
        int people = 0;
        for (int village = 0; village < hill.villages; village++) {
            if (strikes(story, village) && day + hill.needs[village] > gone) {
                people += hill.people[village];
            }
        }
        return answer(people);
    }

    public int tell(int village, int cost) {
        if (!isVillage(village)) {
            return refuse(NONE_SUCH);
        }
        if (cost < 0 || cost > 999999) {
            return refuse(WRONG_NUMBER);
        }
        findFits();
        int weight = weightOfFits();
        if (weight == 0) {
            return refuse(NOTHING);
        }
        int striking = 0;
        int firstGone = DAYS;
        for (int story = 0; story < hill.stories; story++) {
            if (isFit(story) && strikes(story, village)) {
                striking += hill.story[story].weighs;
                firstGone = Math.min(firstGone, courseOf(story).gone);
            }
        }
        if (striking == 0 || striking * hill.people[village] < cost * weight) {
            return answer(NEVER);
        }
        return answer(Math.max(0, firstGone - hill.needs[village]));
    }

    // ---- parts, knowers

    public int part(int story, int peg, int day) {
        if (!isPegDay(story, peg, day)) {
            return refuse(NONE_SUCH);
        }
        if (hill.story[story].kind != RAINS) {
            return answer(0);
        }
        tryCourse.follow(hill, hill.story[story], levels, false);
        int at = row(peg, day);
        return answer(courseOf(story).inches[at] - tryCourse.inches[at]);
    }

    public int knew(int knower) {
        if (knower < 0 || knower >= hill.knowers) {
            return refuse(NONE_SUCH);
        }
        return answer(readings.firstDayOf(hill.knowerPeg[knower], hill.knowerReads[knower]));
    }

    public int led(int story, int i) throws NoSuchElementException {
        if (!isStory(story)) {
            throw new NoSuchElementException("no such story");
        }
        Course course = courseOf(story);
        int ahead = 0;
        for (int day = 0; day < DAYS; day++) {
            if (course.together[day] > course.togetherAhead(day)) {
                if (ahead == i) {
                    return day;
                }
                ahead++;
            }
        }
        throw new NoSuchElementException("no such day");
    }

    public int size(int what) {
        switch (what) {
            case 0:
                return hill.pegs;
            case 1:
                return hill.lake.froms;
            case 2:
                return hill.rains;
            case 3:
                return hill.stories;
            case 4:
                return hill.villages;
            case 5:
                return hill.knowers;
            case 6:
                return readings.count;
            case 7:
                return tape.length;
            case 8:
                return hill.lake.stands;
            case 9:
                return hill.lake.to;
            default:
                return NONE;
        }
    }

    public int trouble() {
        return trouble;
    }

    // ---- answers and what may be asked for

    private int refuse(int why) {
        trouble = why;
        return NONE;
    }

    private int answer(int value) {
        trouble = NO_TROUBLE;
        return value;
    }

    private boolean noHill() {
        return hill.stories == 0;
    }

    private static boolean isDay(int day) {
        return day >= 0 && day < DAYS;
    }

    private boolean isStory(int story) {
        return story >= 0 && story < hill.stories;
    }

    private boolean isPeg(int peg) {
        return peg >= 0 && peg < hill.pegs;
    }

    private boolean isVillage(int village) {
        return village >= 0 && village < hill.villages;
    }

    private boolean isPegDay(int story, int peg, int day) {
        return isStory(story) && isPeg(peg) && isDay(day);
    }

    private static int row(int peg, int day) {
        return peg * DAYS + day;
    }

    // ---- what the STORIES say

    private void planAnew() {
        hill.lake.fillByPlan(levels, DAYS);
        for (int i = 0; i < MAX_STORIES; i++) {
            known[i] = false;
        }
    }

    /** For a STORY that there is. */
    private Course courseOf(int story) {
        Course course = courses[story];
        if (!known[story]) {
            course.follow(hill, hill.story[story], levels, true);
            known[story] = true;
        }
        return course;
    }

    private boolean staysIfDownFrom(int story, int day) {
        hill.lake.fillByPlan(tryLevels, day);
        tryCourse.follow(hill, hill.story[story], tryLevels, true);
        return tryCourse.gone == NEVER;
    }

    private boolean staysIfSteady(int story, int goal) {
        hill.lake.fillSteady(tryLevels, goal);
        tryCourse.follow(hill, hill.story[story], tryLevels, true);
        return tryCourse.gone == NEVER;
    }

    /** The calls that ask for FITS look through what was READ once, here, ahead of all else. */
    private void findFits() {
        for (int story = 0; story < hill.stories; story++) {
            misfits[story] = readings.firstMisfit(courseOf(story));
        }
    }

    private boolean isFit(int story) {
        return misfits[story] == DAYS;
    }

    private int countFitsUpTo(int day) {
        int count = 0;
        for (int story = 0; story < hill.stories; story++) {
            if (misfits[story] > day) {
                count++;
            }
        }
        return count;
    }

    /** 0 just if there are no FITS, for each STORY weighs 1 at least. */
    private int weightOfFits() {
        int weight = 0;
        for (int story = 0; story < hill.stories; story++) {
            if (isFit(story)) {
                weight += hill.story[story].weighs;
            }
        }
        return weight;
    }

    private boolean strikes(int story, int village) {
        Course course = courseOf(story);
        return course.gone != NEVER && hill.high[village] <= course.wave;
    }

    private int greatestAlike(int depth) {
        for (int story = 0; story < hill.stories; story++) {
            finds[story] = isFit(story) ? hill.story[story].findsAt(depth) : NONE;
        }
        int greatest = 0;
        for (int story = 0; story < hill.stories; story++) {
            if (finds[story] != NONE) {
                greatest = Math.max(greatest, weightFinding(finds[story]));
            }
        }
        return greatest;
    }

    private int weightFinding(int what) {
        int weight = 0;
        for (int story = 0; story < hill.stories; story++) {
            if (finds[story] == what) {
                weight += hill.story[story].weighs;
            }
        }
        return weight;
    }

    // ---- LETTINGS and the line

    private boolean falls(int day) {
        if (!isDay(day)) {
            return false;
        }
        int ahead = day > 0 ? levels[day - 1] : hill.lake.stands;
        return levels[day] < ahead;
    }

    private boolean isLetting(int day) {
        return falls(day) && !falls(day - 1);
    }

    private int countLettings() {
        int count = 0;
        for (int day = 0; day < DAYS; day++) {
            if (isLetting(day)) {
                count++;
            }
        }
        return count;
    }

    private int tapOf(int story) {
        Course course = courseOf(story);
        int held = 0;
        for (int day = 0; day < DAYS; day++) {
            if (isLetting(day)) {
                if (!course.heldFrom(day)) {
                    return held;
                }
                held++;
            }
        }
        return held;
    }

    private static int noughtBy(int day, int first, int second) {
        if (first <= 0 || second <= first) {
            return NEVER;
        }
        return day + second / (second - first);
    }

    /** THE TAPE. */
    private static final class Tape {
        final byte[] bytes = new byte[MAX_TAPE];
        int length;

        void add(int number) {
            for (int shift = 24; shift >= 0; shift -= 8) {
                if (length < MAX_TAPE) {
                    bytes[length] = (byte) (number >> shift);
                    length++;
                }
            }
        }
    }

    /** The lake and the froms; those that plan() told stand behind those of the text. */
    private static final class Lake {
        boolean told;
        int stands;
        int moves;
        int to;
        int froms;
        int planned;
        final int[] fromDay = new int[MAX_FROMS];
        final int[] fromLevel = new int[MAX_FROMS];

        void empty() {
            told = false;
            stands = 0;
            moves = 0;
            to = 0;
            froms = 0;
            planned = 0;
        }

        void addFrom(int day, int level) {
            if (froms < MAX_FROMS) {
                fromDay[froms] = day;
                fromLevel[froms] = level;
                froms++;
            }
        }

        private int goalOf(int day) {
            int latest = 0;
            int goal = stands;
            for (int i = 0; i < froms; i++) {
                if (fromDay[i] <= day && fromDay[i] >= latest) {
                    latest = fromDay[i];
                    goal = fromLevel[i];
                }
            }
            return Math.min(goal, to);
        }

        private int towards(int goal, int level) {
            return level < goal ? Math.min(goal, level + moves) : Math.max(goal, level - moves);
        }

        /** By the plan; with GOAL 0 from a DAY on, which may be behind all DAYS. */
        void fillByPlan(int[] levels, int downFrom) {
            int level = stands;
            for (int day = 0; day < DAYS; day++) {
                level = towards(day < downFrom ? goalOf(day) : 0, level);
                levels[day] = level;
            }
        }

        void fillSteady(int[] levels, int goal) {
            int level = stands;
            for (int day = 0; day < DAYS; day++) {
                level = towards(goal, level);
                levels[day] = level;
            }
        }
    }

    /** A STORY; more is what pressed, weak and quick tell behind k: late, after, above. */
    private static final class Story {
        int weighs;
        int kind;
        int k;
        int more;

        int findsAt(int depth) {
            switch (kind) {
                case NEW:
                    return depth <= k ? 1 : 0;
                case PRESSED:
                    return k * depth / 10;
                case WEAK:
                    return depth == k ? 2 : 0;
                case RAINS:
                    return depth <= 5 ? 1 : 0;
                default:
                    return 0;
            }
        }
    }

    /** What a text tells. */
    private static final class Hill {
        final Lake lake = new Lake();
        int pegs;
        final int[] push = new int[MAX_PEGS];
        final int[] bed = new int[MAX_PEGS];
        int rains;
        /** All rain of each DAY. */
        final int[] rainOn = new int[DAYS];
        int stories;
        final Story[] story = new Story[MAX_STORIES];
        int villages;
        final int[] high = new int[MAX_VILLAGES];
        final int[] people = new int[MAX_VILLAGES];
        final int[] needs = new int[MAX_VILLAGES];
        int knowers;
        final int[] knowerPeg = new int[MAX_KNOWERS];
        final int[] knowerReads = new int[MAX_KNOWERS];

        Hill() {
            for (int i = 0; i < MAX_STORIES; i++) {
                story[i] = new Story();
            }
        }

        void empty() {
            lake.empty();
            pegs = 0;
            rains = 0;
            Arrays.fill(rainOn, 0);
            stories = 0;
            villages = 0;
            knowers = 0;
        }
    }

    /** What one STORY says of each PEG on each DAY, for LEVELS given. */
    private static final class Course {
        final int[] speeds = new int[MAX_PEGS * DAYS];
        final int[] inches = new int[MAX_PEGS * DAYS];
        final int[] worn = new int[MAX_PEGS * DAYS];
        /** All SPEEDS of each DAY. */
        final int[] together = new int[DAYS];
        final int[] adds = new int[DAYS];
        int gone;
        int wave;

        void follow(Hill hill, Story story, int[] levels, boolean rain) {
            fillAdds(hill, story, levels, rain);
            gone = NEVER;
            wave = 0;
            for (int day = 0; day < DAYS; day++) {
                together[day] = 0;
                boolean goesOn = gone == NEVER;
                for (int peg = 0; peg < hill.pegs; peg++) {
                    int speed = goesOn ? speedOf(hill, story, peg, day) : 0;
                    creepBy(speed, story, peg, day);
                    together[day] += speed;
                    if (speed >= 100) {
                        gone = day;
                    }
                }
                if (gone == day) {
                    wave = together[day] * levels[day] / 100;
                }
            }
        }

        int togetherAhead(int day) {
            return day > 0 ? together[day - 1] : 0;
        }

        boolean heldFrom(int day) {
            int then = Math.min(day + 5, DAYS - 1);
            if (gone != NEVER && gone <= then) {
                return false;
            }
            return together[then] < togetherAhead(day);
        }

        private int speedOf(Hill hill, Story story, int peg, int day) {
            int at = row(peg, day);
            int wornAhead = day > 0 ? worn[at - 1] : 0;
            int resist = Math.max(0, hill.bed[peg] - wornAhead);
            if (story.kind == QUICK && day > 0 && speeds[at - 1] >= story.more) {
                resist = 0;
            }
            return Math.max(0, hill.push[peg] + adds[day] - resist) / 10;
        }

        private void creepBy(int speed, Story story, int peg, int day) {
            int at = row(peg, day);
            speeds[at] = speed;
            inches[at] = (day > 0 ? inches[at - 1] : 0) + speed;
            boolean wears = story.kind == WEAK && inches[at] >= story.more;
            worn[at] = (day > 0 ? worn[at - 1] : 0) + (wears ? speed : 0);
        }

        private void fillAdds(Hill hill, Story story, int[] levels, boolean rain) {
            switch (story.kind) {
                case NEW:
                    fillByRise(story.k, hill.lake.stands, levels);
                    break;
                case PRESSED:
                    fillByMean(story.k, story.more, levels);
                    break;
                case RAINS:
                    fillByRain(rain ? story.k : 0, hill.rainOn);
                    break;
                default:
                    for (int day = 0; day < DAYS; day++) {
                        adds[day] = story.k * levels[day] / 100;
                    }
            }
        }

        private void fillByRise(int k, int stands, int[] levels) {
            int highest = stands;
            for (int day = 0; day < DAYS; day++) {
                adds[day] = k * Math.max(0, levels[day] - highest) / 100;
                highest = Math.max(highest, levels[day]);
            }
        }

        private void fillByMean(int k, int late, int[] levels) {
            int sum = 0;
            for (int day = 0; day < DAYS; day++) {
                sum += levels[day];
                if (late > 0 && day >= late) {
                    sum -= levels[day - late];
                }
                int count = Math.max(1, Math.min(late, day + 1));
                adds[day] = k * (sum / count) / 100;
            }
        }

        private void fillByRain(int k, int[] rainOn) {
            int sum = 0;
            for (int day = 0; day < DAYS; day++) {
                sum += rainOn[day];
                if (day >= 5) {
                    sum -= rainOn[day - 5];
                }
                adds[day] = k * sum;
            }
        }
    }

    /** What was READ. */
    private static final class Readings {
        int count;
        final int[] peg = new int[MAX_READ];
        final int[] day = new int[MAX_READ];
        final int[] inches = new int[MAX_READ];
        final int[] off = new int[MAX_READ];

        void add(int ofPeg, int onDay, int much, int mayBeOff) {
            if (count < MAX_READ) {
                peg[count] = ofPeg;
                day[count] = onDay;
                inches[count] = much;
                off[count] = mayBeOff;
                count++;
            }
        }

        /** The first DAY with a READ that the STORY doesn't agree with; behind all DAYS without one. */
        int firstMisfit(Course course) {
            int first = DAYS;
            for (int i = 0; i < count; i++) {
                int apart = Math.abs(course.inches[row(peg[i], day[i])] - inches[i]);
                if (apart > off[i]) {
                    first = Math.min(first, day[i]);
                }
            }
            return first;
        }

        int firstDayOf(int ofPeg, int least) {
            int first = DAYS;
            for (int i = 0; i < count; i++) {
                if (peg[i] == ofPeg && inches[i] >= least) {
                    first = Math.min(first, day[i]);
                }
            }
            return first < DAYS ? first : NEVER;
        }
    }

    /** Parts THE TAPE into TOKENS, one after another. */
    private static final class Tokens {
        private static final int END = 0;
        private static final int WORD = 1;
        private static final int WHOLE = 2;
        private static final int SEMICOLON = 3;
        private static final int WRONG = 4;

        private final Tape tape;
        private int end;
        private int behind;
        int kind;
        int place;
        /** A WHOLE's number, or a WORD's letters, five bits each. */
        long value;

        Tokens(Tape tape) {
            this.tape = tape;
        }

        void begin(int length) {
            end = Math.min(length, tape.length);
            behind = 0;
            next();
        }

        void next() {
            place = end;
            for (int i = behind; i < end && place == end; i++) {
                if (tape.bytes[i] != ' ') {
                    place = i;
                }
            }
            behind = place;
            value = 0;
            int first = place < end ? tape.bytes[place] : NONE;
            if (place >= end) {
                kind = END;
            } else if (first >= 'a' && first <= 'z') {
                takeLetters();
            } else if (first >= '0' && first <= '9') {
                takeDigits();
            } else {
                kind = first == ';' ? SEMICOLON : WRONG;
                behind = place + 1;
            }
        }

        boolean isEnd() {
            return kind == END;
        }

        boolean isAnyWord() {
            return kind == WORD;
        }

        boolean isWhole() {
            return kind == WHOLE;
        }

        boolean isSemicolon() {
            return kind == SEMICOLON;
        }

        boolean isWord(String word) {
            int length = word.length();
            if (kind != WORD || behind - place != length) {
                return false;
            }
            for (int i = 0; i < length && place + i < end; i++) {
                if (tape.bytes[place + i] != word.charAt(i)) {
                    return false;
                }
            }
            return true;
        }

        private void takeLetters() {
            for (int i = place; i < end && tape.bytes[i] >= 'a' && tape.bytes[i] <= 'z'; i++) {
                value = value << 5 | (tape.bytes[i] - 'a' + 1);
                behind = i + 1;
            }
            kind = behind - place <= 8 ? WORD : WRONG;
        }

        private void takeDigits() {
            for (int i = place; i < end && tape.bytes[i] >= '0' && tape.bytes[i] <= '9'; i++) {
                value = value * 10 + (tape.bytes[i] - '0');
                behind = i + 1;
            }
            kind = behind - place <= 3 ? WHOLE : WRONG;
        }
    }

    /** Tells a text into a Hill, up to its first FAULT. Each method for a part answers whether it has none. */
    private static final class Teller {
        private static final int MAX_NAMES = MAX_PEGS + MAX_STORIES + MAX_VILLAGES + MAX_KNOWERS;

        private final Tokens tokens;
        private final long[] names = new long[MAX_NAMES];
        private final long[] pegNames = new long[MAX_PEGS];
        private int nameCount;
        /** The WHOLE that was taken last. */
        private int whole;
        /** 0 without a FAULT. */
        int fault;
        int faultPlace;

        Teller(Tape tape) {
            tokens = new Tokens(tape);
        }

        boolean tellHill(int length, Hill hill) {
            hill.empty();
            nameCount = 0;
            fault = 0;
            faultPlace = 0;
            tokens.begin(length);
            boolean more = true;
            for (int lines = 0; more && lines <= MAX_TAPE; lines++) {
                if (!takeLine(hill)) {
                    return false;
                }
                more = tokens.isSemicolon();
                if (more) {
                    tokens.next();
                }
            }
            if (!tokens.isEnd()) {
                return faulty(FORM);
            }
            if (!hill.lake.told || hill.pegs == 0 || hill.stories == 0) {
                return faulty(LACKS);
            }
            return true;
        }

        private boolean takeLine(Hill hill) {
            if (tokens.isWord("lake")) {
                return takeLake(hill.lake);
            }
            if (tokens.isWord("peg")) {
                return takePeg(hill);
            }
            if (tokens.isWord("from")) {
                return takeFrom(hill.lake);
            }
            if (tokens.isWord("rain")) {
                return takeRain(hill);
            }
            if (tokens.isWord("story")) {
                return takeStory(hill);
            }
            if (tokens.isWord("village")) {
                return takeVillage(hill);
            }
            if (tokens.isWord("knower")) {
                return takeKnower(hill);
            }
            return faulty(FORM);
        }

        private boolean takeLake(Lake lake) {
            if (lake.told) {
                return faulty(AGAIN);
            }
            tokens.next();
            if (!takeNumber("stands", 0, 500)) {
                return false;
            }
            lake.stands = whole;
            if (!takeNumber("moves", 1, 50)) {
                return false;
            }
            lake.moves = whole;
            if (!takeNumber("to", Math.max(1, lake.stands), 999)) {
                return false;
            }
            lake.to = whole;
            lake.told = true;
            return true;
        }

        private boolean takePeg(Hill hill) {
            int peg = hill.pegs;
            if (peg >= MAX_PEGS) {
                return faulty(MANY);
            }
            tokens.next();
            pegNames[peg] = tokens.value;
            if (!takeNewName() || !takeNumber("push", 0, 999)) {
                return false;
            }
            hill.push[peg] = whole;
            if (!takeNumber("bed", 0, 999)) {
                return false;
            }
            hill.bed[peg] = whole;
            hill.pegs++;
            return true;
        }

        private boolean takeFrom(Lake lake) {
            if (lake.froms >= MAX_TOLD_FROMS) {
                return faulty(MANY);
            }
            tokens.next();
            if (!takeWhole(0, DAYS - 1)) {
                return false;
            }
            int day = whole;
            if (!takeNumber("level", 0, 999)) {
                return false;
            }
            lake.addFrom(day, whole);
            return true;
        }

        private boolean takeRain(Hill hill) {
            if (hill.rains >= MAX_RAINS) {
                return faulty(MANY);
            }
            tokens.next();
            if (!takeWhole(0, DAYS - 1)) {
                return false;
            }
            int day = whole;
            if (!takeNumber("much", 1, 99)) {
                return false;
            }
            hill.rainOn[day] += whole;
            hill.rains++;
            return true;
        }

        private boolean takeStory(Hill hill) {
            if (hill.stories >= MAX_STORIES) {
                return faulty(MANY);
            }
            Story story = hill.story[hill.stories];
            tokens.next();
            if (!takeNewName() || !takeNumber("weighs", 1, 99)) {
                return false;
            }
            story.weighs = whole;
            story.kind = kindHere();
            if (story.kind == NONE) {
                return faulty(FORM);
            }
            tokens.next();
            if (!takeWhole(0, 99)) {
                return false;
            }
            story.k = whole;
            if (story.kind == PRESSED && !takeNumber("late", 1, 20)) {
                return false;
            }
            if (story.kind == WEAK && !takeNumber("after", 0, 999)) {
                return false;
            }
            if (story.kind == QUICK && !takeNumber("above", 1, 99)) {
                return false;
            }
            story.more = whole;
            hill.stories++;
            return true;
        }

        private int kindHere() {
            if (tokens.isWord("creep")) {
                return CREEP;
            }
            if (tokens.isWord("new")) {
                return NEW;
            }
            if (tokens.isWord("pressed")) {
                return PRESSED;
            }
            if (tokens.isWord("weak")) {
                return WEAK;
            }
            if (tokens.isWord("quick")) {
                return QUICK;
            }
            return tokens.isWord("rains") ? RAINS : NONE;
        }

        private boolean takeVillage(Hill hill) {
            int village = hill.villages;
            if (village >= MAX_VILLAGES) {
                return faulty(MANY);
            }
            tokens.next();
            if (!takeNewName() || !takeNumber("high", 0, 999)) {
                return false;
            }
            hill.high[village] = whole;
            if (!takeNumber("people", 1, 999)) {
                return false;
            }
            hill.people[village] = whole;
            if (!takeNumber("needs", 0, 30)) {
                return false;
            }
            hill.needs[village] = whole;
            hill.villages++;
            return true;
        }

        private boolean takeKnower(Hill hill) {
            int knower = hill.knowers;
            if (knower >= MAX_KNOWERS) {
                return faulty(MANY);
            }
            tokens.next();
            if (!takeNewName()) {
                return false;
            }
            if (!tokens.isWord("of")) {
                return faulty(FORM);
            }
            tokens.next();
            if (!isName()) {
                return faulty(FORM);
            }
            int peg = pegNamed(tokens.value, hill.pegs);
            if (peg == NONE) {
                return faulty(NO_PEG);
            }
            hill.knowerPeg[knower] = peg;
            tokens.next();
            if (!takeNumber("reads", 0, 999)) {
                return false;
            }
            hill.knowerReads[knower] = whole;
            hill.knowers++;
            return true;
        }

        private int pegNamed(long name, int pegs) {
            for (int peg = 0; peg < pegs; peg++) {
                if (pegNames[peg] == name) {
                    return peg;
                }
            }
            return NONE;
        }

        private boolean takeNewName() {
            if (!isName()) {
                return faulty(FORM);
            }
            for (int i = 0; i < nameCount; i++) {
                if (names[i] == tokens.value) {
                    return faulty(AGAIN);
                }
            }
            if (nameCount < MAX_NAMES) {
                names[nameCount] = tokens.value;
                nameCount++;
            }
            tokens.next();
            return true;
        }

        private boolean isName() {
            return tokens.isAnyWord() && !tokens.isWord("lake") && !tokens.isWord("peg") && !tokens.isWord("from")
                && !tokens.isWord("rain") && !tokens.isWord("story") && !tokens.isWord("village")
                && !tokens.isWord("knower");
        }

        private boolean takeWhole(int least, int most) {
            if (!tokens.isWhole()) {
                return faulty(FORM);
            }
            if (tokens.value < least || tokens.value > most) {
                return faulty(BOUNDS);
            }
            whole = (int) tokens.value;
            tokens.next();
            return true;
        }

        private boolean takeNumber(String word, int least, int most) {
            if (!tokens.isWord(word)) {
                return faulty(FORM);
            }
            tokens.next();
            return takeWhole(least, most);
        }

        private boolean faulty(int number) {
            fault = number;
            faultPlace = tokens.place;
            return false;
        }
    }
}
