import java.util.ArrayList;
import java.util.HashMap;
import java.util.HashSet;
import java.util.List;
import java.util.Map;
import java.util.Set;

/**
 * The document once more, as plainly and slowly as it can be said: nothing is kept but what was told,
 * all else is worked out anew from the first DAY at each question. FuzzTest holds HillTap against it.
 */
final class Model {
    static final class Tok {
        final String text;
        final int place;

        Tok(String text, int place) {
            this.text = text;
            this.place = place;
        }
    }

    static final class Fault extends RuntimeException {
        private static final long serialVersionUID = 1L;
        final int number;
        final int place;

        Fault(int number, int place) {
            this.number = number;
            this.place = place;
        }
    }

    static final class Told {
        int stands, moves, to;
        List<int[]> pegs = new ArrayList<>();
        List<int[]> froms = new ArrayList<>();
        List<int[]> rains = new ArrayList<>();
        List<String> kinds = new ArrayList<>();
        List<int[]> stories = new ArrayList<>();
        List<int[]> villages = new ArrayList<>();
        List<int[]> knowers = new ArrayList<>();
    }

    private static final Set<String> RESERVED = Set.of("lake", "peg", "from", "rain", "story", "village", "knower");

    String tape = "";
    Told hill = null;
    int planned = 0;
    List<int[]> read = new ArrayList<>();
    int trouble = 0;
    int fault = 0;
    int place = 0;

    // ---- the text

    private List<Tok> toks;
    private int next;
    private Set<String> names;
    private Map<String, Integer> pegNames;

    private static List<Tok> tokens(String text) {
        List<Tok> all = new ArrayList<>();
        int i = 0;
        while (i < text.length()) {
            char c = text.charAt(i);
            if (c == ' ') {
                i++;
                continue;
            }
            int j = i + 1;
            if (isLetter(c)) {
                while (j < text.length() && isLetter(text.charAt(j))) j++;
            } else if (isDigit(c)) {
                while (j < text.length() && isDigit(text.charAt(j))) j++;
            }
            all.add(new Tok(text.substring(i, j), i));
            i = j;
        }
        all.add(new Tok("", text.length()));
        return all;
    }

    private static boolean isLetter(char c) {
        return "abcdefghijklmnopqrstuvwxyz".indexOf(c) >= 0;
    }

    private static boolean isDigit(char c) {
        return "0123456789".indexOf(c) >= 0;
    }

    private Tok take() {
        Tok t = toks.get(Math.min(next, toks.size() - 1));
        next++;
        return t;
    }

    private void word(String w) {
        Tok t = take();
        if (!t.text.equals(w)) throw new Fault(1, t.place);
    }

    private int whole(int least, int most) {
        Tok t = take();
        if (!t.text.matches("[0-9]{1,3}")) throw new Fault(1, t.place);
        int n = Integer.parseInt(t.text);
        if (n < least || n > most) throw new Fault(4, t.place);
        return n;
    }

    private Tok name() {
        Tok t = take();
        if (!t.text.matches("[a-z]{1,8}") || RESERVED.contains(t.text)) throw new Fault(1, t.place);
        return t;
    }

    private String newName() {
        Tok t = name();
        if (!names.add(t.text)) throw new Fault(3, t.place);
        return t.text;
    }

    private static void room(List<?> list, int most, Tok at) {
        if (list.size() == most) throw new Fault(5, at.place);
    }

    private void line(Told h) {
        Tok t = take();
        switch (t.text) {
            case "lake": {
                if (h.moves != 0) throw new Fault(3, t.place);
                word("stands");
                h.stands = whole(0, 500);
                word("moves");
                int moves = whole(1, 50);
                word("to");
                h.to = whole(1, 999);
                if (h.stands > h.to) throw new Fault(4, toks.get(next - 1).place);
                h.moves = moves;
                break;
            }
            case "peg": {
                room(h.pegs, 5, t);
                String n = newName();
                word("push");
                int push = whole(0, 999);
                word("bed");
                int bed = whole(0, 999);
                pegNames.put(n, h.pegs.size());
                h.pegs.add(new int[] {push, bed});
                break;
            }
            case "from": {
                room(h.froms, 8, t);
                int day = whole(0, 59);
                word("level");
                h.froms.add(new int[] {day, whole(0, 999)});
                break;
            }
            case "rain": {
                room(h.rains, 6, t);
                int day = whole(0, 59);
                word("much");
                h.rains.add(new int[] {day, whole(1, 99)});
                break;
            }
            case "story": {
                room(h.stories, 6, t);
                newName();
                word("weighs");
                int weighs = whole(1, 99);
                Tok kind = take();
                if (!Set.of("creep", "new", "pressed", "weak", "quick", "rains").contains(kind.text)) {
                    throw new Fault(1, kind.place);
                }
                int k = whole(0, 99);
                int more = 0;
                if (kind.text.equals("pressed")) {
                    word("late");
                    more = whole(1, 20);
                } else if (kind.text.equals("weak")) {
                    word("after");
                    more = whole(0, 999);
                } else if (kind.text.equals("quick")) {
                    word("above");
                    more = whole(1, 99);
                }
                h.kinds.add(kind.text);
                h.stories.add(new int[] {weighs, k, more});
                break;
            }
            case "village": {
                room(h.villages, 4, t);
                newName();
                word("high");
                int high = whole(0, 999);
                word("people");
                int people = whole(1, 999);
                word("needs");
                h.villages.add(new int[] {high, people, whole(0, 30)});
                break;
            }
            case "knower": {
                room(h.knowers, 4, t);
                newName();
                word("of");
                Tok p = name();
                if (!pegNames.containsKey(p.text)) throw new Fault(2, p.place);
                word("reads");
                h.knowers.add(new int[] {pegNames.get(p.text), whole(0, 999)});
                break;
            }
            default:
                throw new Fault(1, t.place);
        }
    }

    private Told parse(String text) {
        toks = tokens(text);
        next = 0;
        names = new HashSet<>();
        pegNames = new HashMap<>();
        Told h = new Told();
        while (true) {
            line(h);
            Tok t = take();
            if (t.text.equals(";")) continue;
            if (!t.text.isEmpty()) throw new Fault(1, t.place);
            if (h.moves == 0 || h.pegs.isEmpty() || h.stories.isEmpty()) throw new Fault(6, t.place);
            return h;
        }
    }

    int feed(int[] numbers) {
        if (tape.length() + 20 > 900) return -1;
        for (int n : numbers) {
            for (int b = 3; b >= 0; b--) tape += (char) (n >>> 8 * b & 255);
        }
        return tape.length();
    }

    int hill(int n) {
        if (n < 0 || n > tape.length()) return refuse(2);
        String text = tape.substring(0, n);
        tape = "";
        try {
            hill = parse(text);
        } catch (Fault f) {
            fault = f.number;
            place = f.place;
            return refuse(4);
        }
        fault = 0;
        planned = 0;
        read.clear();
        return answer(hill.stories.size());
    }

    int where() {
        return trouble == 4 ? place : -1;
    }

    private int refuse(int t) {
        trouble = t;
        return -1;
    }

    private int answer(int a) {
        trouble = 0;
        return a;
    }

    // ---- days

    private boolean isDay(int d) {
        return d >= 0 && d <= 59;
    }

    private boolean isStory(int s) {
        return hill != null && s >= 0 && s < hill.stories.size();
    }

    private boolean isPeg(int p) {
        return hill != null && p >= 0 && p < hill.pegs.size();
    }

    private boolean isVillage(int v) {
        return hill != null && v >= 0 && v < hill.villages.size();
    }

    /** The LEVEL of a DAY by the plan (-1 for the one ahead of DAY 0). */
    private int lake(int day) {
        if (day < 0) return hill.stands;
        int before = lake(day - 1);
        int goal = hill.stands;
        for (int d = 0; d <= day; d++) {
            for (int[] f : hill.froms) if (f[0] == d) goal = f[1];
        }
        if (goal > hill.to) goal = hill.to;
        for (int i = 0; i < hill.moves; i++) before += Integer.signum(goal - before);
        return before;
    }

    static final class Days {
        int[][] speed, inches, worn;
        int gone = -2;
        int wave = 0;
        int[] levels = new int[60];

        int all(int day) {
            int sum = 0;
            if (day >= 0) for (int[] s : speed) sum += s[day];
            return sum;
        }
    }

    private Days days(int story, int down, int steady, boolean rain) {
        int pegs = hill.pegs.size();
        Days x = new Days();
        x.speed = new int[pegs][60];
        x.inches = new int[pegs][60];
        x.worn = new int[pegs][60];
        for (int d = 0; d < 60; d++) x.levels[d] = lakeBehind(x.levels, d, down, steady);
        String kind = hill.kinds.get(story);
        int more = hill.stories.get(story)[2];
        for (int d = 0; d < 60; d++) {
            boolean over = x.gone != -2;
            int add = add(story, x.levels, d, rain);
            for (int p = 0; p < pegs; p++) {
                int inches = d == 0 ? 0 : x.inches[p][d - 1];
                int worn = d == 0 ? 0 : x.worn[p][d - 1];
                int ahead = d == 0 ? 0 : x.speed[p][d - 1];
                int resist = Math.max(hill.pegs.get(p)[1] - worn, 0);
                if (kind.equals("quick") && ahead >= more) resist = 0;
                int speed = over ? 0 : Math.max(hill.pegs.get(p)[0] + add - resist, 0) / 10;
                inches += speed;
                if (kind.equals("weak") && inches >= more) worn += speed;
                x.speed[p][d] = speed;
                x.inches[p][d] = inches;
                x.worn[p][d] = worn;
                if (speed >= 100) x.gone = d;
            }
        }
        if (x.gone >= 0) x.wave = x.all(x.gone) * x.levels[x.gone] / 100;
        return x;
    }

    /** As lake(), from the LEVELS ahead, DOWN from a DAY (60: not), or by a steady GOAL (-1: not). */
    private int lakeBehind(int[] levels, int day, int down, int steady) {
        int before = day == 0 ? hill.stands : levels[day - 1];
        int goal = hill.stands;
        int best = -1;
        for (int i = hill.froms.size() - 1; i >= 0; i--) {
            int[] f = hill.froms.get(i);
            if (f[0] <= day && f[0] > best) {
                best = f[0];
                goal = f[1];
            }
        }
        goal = steady >= 0 ? steady : day >= down ? 0 : Math.min(goal, hill.to);
        int way = goal - before;
        return Math.abs(way) <= hill.moves ? goal : before + Integer.signum(way) * hill.moves;
    }

    private int add(int story, int[] levels, int d, boolean rain) {
        int k = hill.stories.get(story)[1];
        int more = hill.stories.get(story)[2];
        switch (hill.kinds.get(story)) {
            case "new": {
                int highest = hill.stands;
                for (int i = 0; i < d; i++) highest = Math.max(highest, levels[i]);
                return Math.max(0, Math.floorDiv(k * (levels[d] - highest), 100));
            }
            case "pressed": {
                int sum = 0;
                int count = 0;
                for (int i = d; i >= 0 && count < more; i--) {
                    sum += levels[i];
                    count++;
                }
                return Math.floorDiv(k * Math.floorDiv(sum, count), 100);
            }
            case "rains": {
                int sum = 0;
                for (int[] r : hill.rains) if (rain && r[0] <= d && r[0] > d - 5) sum += r[1];
                return k * sum;
            }
            default:
                return Math.floorDiv(k * levels[d], 100);
        }
    }

    private Days days(int story) {
        return days(story, 60, -1, true);
    }

    int level(int day) {
        if (hill == null || !isDay(day)) return refuse(1);
        return answer(lake(day));
    }

    int plan(int day, int level) {
        if (hill == null) return refuse(1);
        if (!isDay(day) || level < 0 || level > 999) return refuse(2);
        if (hill.froms.size() == 16) return refuse(3);
        hill.froms.add(new int[] {day, level});
        planned++;
        return answer(hill.froms.size());
    }

    int undo() {
        if (planned == 0) {
            trouble = 6;
            return 0;
        }
        planned--;
        hill.froms.remove(hill.froms.size() - 1);
        return answer(1);
    }

    int peg(int s, int p, int d, int what) {
        if (!isStory(s) || !isPeg(p) || !isDay(d) || what < 0 || what > 2) return refuse(1);
        Days x = days(s);
        return answer((what == 0 ? x.inches : what == 1 ? x.speed : x.worn)[p][d]);
    }

    int gone(int s) {
        return isStory(s) ? answer(days(s).gone) : refuse(1);
    }

    int wave(int s) {
        return isStory(s) ? answer(days(s).wave) : refuse(1);
    }

    // ---- what was read

    int read(int p, int d, int inches, int off) {
        if (!isPeg(p) || !isDay(d)) return refuse(1);
        if (inches < 0 || inches > 99999 || off < 0 || off > 999) return refuse(2);
        if (read.size() == 24) return refuse(3);
        read.add(new int[] {p, d, inches, off});
        return answer(read.size());
    }

    int forget() {
        int n = read.size();
        read.clear();
        return n;
    }

    private boolean agrees(int s, int upTo) {
        Days x = days(s);
        for (int[] r : read) {
            if (r[1] > upTo) continue;
            int said = x.inches[r[0]][r[1]];
            if (said < r[2] - r[3] || said > r[2] + r[3]) return false;
        }
        return true;
    }

    private List<Integer> fitting(int upTo) {
        List<Integer> all = new ArrayList<>();
        for (int s = 0; hill != null && s < hill.stories.size(); s++) if (agrees(s, upTo)) all.add(s);
        return all;
    }

    private int weigh(List<Integer> stories) {
        int sum = 0;
        for (int s : stories) sum += hill.stories.get(s)[0];
        return sum;
    }

    int fits() {
        return hill == null ? refuse(1) : answer(fitting(59).size());
    }

    int fit(int i) {
        List<Integer> all = fitting(59);
        return i < 0 || i >= all.size() ? refuse(1) : answer(all.get(i));
    }

    int weight(int s) {
        if (s == -1) return answer(weigh(fitting(59)));
        if (!isStory(s)) return refuse(1);
        return answer(agrees(s, 59) ? hill.stories.get(s)[0] : 0);
    }

    int clear() {
        if (hill == null) return refuse(1);
        for (int d = 0; d < 60; d++) if (fitting(d).size() == 1) return answer(d);
        return answer(-2);
    }

    // ---- tap, line

    private List<Integer> letDown() {
        List<Integer> all = new ArrayList<>();
        int[] levels = days(0).levels;
        boolean was = false;
        for (int d = 0; d < 60; d++) {
            boolean below = levels[d] < (d == 0 ? hill.stands : levels[d - 1]);
            if (below && !was) all.add(d);
            was = below;
        }
        return all;
    }

    private int held(int s) {
        Days x = days(s);
        int n = 0;
        for (int d : letDown()) {
            int then = d + 5 > 59 ? 59 : d + 5;
            boolean isGone = x.gone >= 0 && x.gone <= then;
            if (isGone || x.all(then) >= x.all(d - 1)) return n;
            n++;
        }
        return n;
    }

    int lettings() {
        return hill == null ? refuse(1) : answer(letDown().size());
    }

    int tap(int s) {
        return isStory(s) ? answer(held(s)) : refuse(1);
    }

    int fooled(int n) {
        if (hill == null) return refuse(1);
        if (n < 0) return refuse(2);
        for (int s = 0; s < hill.stories.size(); s++) {
            if (held(s) == n && letDown().size() > n) return answer(s);
        }
        return answer(-2);
    }

    private static int line(int day, int a, int b) {
        return b > a && a > 0 ? day + b / (b - a) : -2;
    }

    int nought(int s, int p, int d) {
        if (!isStory(s) || !isPeg(p) || d < 0 || d > 58) return refuse(1);
        Days x = days(s);
        return answer(line(d, x.speed[p][d], x.speed[p][d + 1]));
    }

    int span(int s, int p, int d, int off, boolean most) {
        if (!isStory(s) || !isPeg(p) || d < 0 || d > 58) return refuse(1);
        if (off < 0 || off > 20) return refuse(2);
        Days x = days(s);
        List<Integer> all = new ArrayList<>();
        for (int i : new int[] {-off, 0, off}) {
            for (int j : new int[] {-off, 0, off}) {
                int n = line(d, x.speed[p][d] + i, x.speed[p][d + 1] + j);
                if (n != -2) all.add(n);
            }
        }
        if (all.isEmpty()) return answer(-2);
        all.sort(null);
        return answer(most ? all.get(all.size() - 1) : all.get(0));
    }

    // ---- letting down

    int helps(int s, int d) {
        if (!isStory(s) || !isDay(d)) return refuse(1);
        return answer(days(s, d, -1, true).gone == -2 ? 1 : 0);
    }

    int last(int s) {
        if (!isStory(s)) return refuse(1);
        int last = -2;
        for (int d = 0; d < 60; d++) if (days(s, d, -1, true).gone == -2) last = d;
        return answer(last);
    }

    int safe(int s) {
        if (!isStory(s)) return refuse(1);
        int safe = -2;
        for (int g = 0; g <= hill.to; g++) if (days(s, 60, g, true).gone == -2) safe = g;
        return answer(safe);
    }

    // ---- bores

    private int finds(int s, int d) {
        int k = hill.stories.get(s)[1];
        switch (hill.kinds.get(s)) {
            case "new":
                return d > k ? 0 : 1;
            case "pressed":
                return k * d / 10;
            case "weak":
                return d == k ? 2 : 0;
            case "rains":
                return d > 5 ? 0 : 1;
            default:
                return 0;
        }
    }

    int found(int s, int d) {
        if (!isStory(s)) return refuse(1);
        if (d < 0 || d > 99) return refuse(2);
        return answer(finds(s, d));
    }

    int bore() {
        if (hill == null) return refuse(1);
        List<Integer> all = fitting(59);
        if (all.isEmpty()) return refuse(6);
        int best = -1;
        int least = Integer.MAX_VALUE;
        for (int d = 0; d < 100; d++) {
            Map<Integer, Integer> alike = new HashMap<>();
            for (int s : all) alike.merge(finds(s, d), hill.stories.get(s)[0], Integer::sum);
            int most = 0;
            for (int w : alike.values()) most = Math.max(most, w);
            if (most < least) {
                least = most;
                best = d;
            }
        }
        return answer(best);
    }

    // ---- villages

    private boolean hit(int s, int v) {
        Days x = days(s);
        return x.gone >= 0 && x.wave >= hill.villages.get(v)[0];
    }

    int struck(int s, int v) {
        if (!isStory(s) || !isVillage(v)) return refuse(1);
        return answer(hit(s, v) ? 1 : 0);
    }

    int dead(int s, int d) {
        if (!isStory(s) || !isDay(d)) return refuse(1);
        int sum = 0;
        for (int v = 0; v < hill.villages.size(); v++) {
            if (hit(s, v) && d + hill.villages.get(v)[2] > days(s).gone) sum += hill.villages.get(v)[1];
        }
        return answer(sum);
    }

    int tell(int v, int cost) {
        if (!isVillage(v)) return refuse(1);
        if (cost < 0 || cost > 999999) return refuse(2);
        List<Integer> all = fitting(59);
        if (all.isEmpty()) return refuse(6);
        List<Integer> by = new ArrayList<>();
        int first = 60;
        for (int s : all) {
            if (hit(s, v)) {
                by.add(s);
                first = Math.min(first, days(s).gone);
            }
        }
        boolean leaves = !by.isEmpty() && (long) weigh(by) * hill.villages.get(v)[1] >= (long) cost * weigh(all);
        return answer(leaves ? Math.max(0, first - hill.villages.get(v)[2]) : -2);
    }

    // ---- parts, knowers

    int part(int s, int p, int d) {
        if (!isStory(s) || !isPeg(p) || !isDay(d)) return refuse(1);
        if (!hill.kinds.get(s).equals("rains")) return answer(0);
        return answer(days(s).inches[p][d] - days(s, 60, -1, false).inches[p][d]);
    }

    int knew(int k) {
        if (hill == null || k < 0 || k >= hill.knowers.size()) return refuse(1);
        int[] knower = hill.knowers.get(k);
        int first = -2;
        for (int[] r : read) {
            if (r[0] == knower[0] && r[2] >= knower[1] && (first == -2 || r[1] < first)) first = r[1];
        }
        return answer(first);
    }

    /** -3 where led() throws. */
    int led(int s, int i) {
        if (!isStory(s)) return -3;
        Days x = days(s);
        List<Integer> all = new ArrayList<>();
        for (int d = 0; d < 60; d++) if (x.all(d) > x.all(d - 1)) all.add(d);
        return i < 0 || i >= all.size() ? -3 : all.get(i);
    }

    int size(int what) {
        if (what < 0 || what > 9) return -1;
        if (what == 6) return read.size();
        if (what == 7) return tape.length();
        if (hill == null) return 0;
        switch (what) {
            case 0: return hill.pegs.size();
            case 1: return hill.froms.size();
            case 2: return hill.rains.size();
            case 3: return hill.stories.size();
            case 4: return hill.villages.size();
            case 5: return hill.knowers.size();
            case 8: return hill.stands;
            default: return hill.to;
        }
    }
}
