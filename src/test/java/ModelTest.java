import java.util.ArrayDeque;
import java.util.ArrayList;
import java.util.List;
import java.util.TreeMap;
import java.util.regex.Matcher;
import java.util.regex.Pattern;

/**
 * Long runs of calls on the class and on a second, plain model of the document; every answer is to be the same. No run
 * makes more calls than the document promises of one object.
 */
final class ModelTest {
    private static final int RUNS = 4000;
    private static final int CALLS = 512;
    private static final int DEAREST_STEP = 90;
    private static final int DEAREST_LOOK = 8;

    /** Numbers from a fixed seed, so that every run of the test is the same. */
    static final class Dice {
        private long state;

        Dice(long seed) {
            state = seed * 0x9E3779B97F4A7C15L + 1;
        }

        int below(int bound) {
            state = state * 6364136223846793005L + 1442695040888963407L;
            return (int) ((state >>> 33) % bound);
        }

        int pick(int... numbers) {
            return numbers[below(numbers.length)];
        }
    }

    /** All that undo and the slots keep. A walker behind its last stone has the place null. */
    static final class World {
        int[] settings = {0, 299, 1, 0};
        List<TreeMap<Integer, Integer>> stones = noStones();
        List<List<TreeMap<Integer, Integer>>> floods = new ArrayList<>();
        boolean begun;
        boolean over;
        int goal;
        int turn;
        Integer[] at = new Integer[3];
        int[][] figures = new int[3][4];
        List<int[]> meetings = new ArrayList<>();

        World copy() {
            World w = new World();
            w.settings = settings.clone();
            w.stones = copyOf(stones);
            for (List<TreeMap<Integer, Integer>> flood : floods) {
                w.floods.add(copyOf(flood));
            }
            w.begun = begun;
            w.over = over;
            w.goal = goal;
            w.turn = turn;
            w.at = at.clone();
            for (int i = 0; i < 3; i++) {
                w.figures[i] = figures[i].clone();
            }
            w.meetings = new ArrayList<>(meetings);
            return w;
        }
    }

    static List<TreeMap<Integer, Integer>> noStones() {
        return new ArrayList<>(List.of(new TreeMap<>(), new TreeMap<>(), new TreeMap<>()));
    }

    static List<TreeMap<Integer, Integer>> copyOf(List<TreeMap<Integer, Integer>> stones) {
        List<TreeMap<Integer, Integer>> copy = new ArrayList<>();
        for (TreeMap<Integer, Integer> row : stones) {
            copy.add(new TreeMap<>(row));
        }
        return copy;
    }

    static final class Model {
        private static final String[] ORDERS = {"012", "021", "102", "120", "201", "210"};
        private static final String KEY = "(?:[12]\\d\\d|[1-9]\\d?|0)";
        private static final String PIECE = KEY + "(?:-" + KEY + ")?(?:\\*[1-9])?";
        private static final String ONE =
            "(?:[012]:" + PIECE + "(?:," + PIECE + ")*|f[012*]:" + KEY + "-" + KEY + "|d|g|l)";
        private static final Pattern TEXT = Pattern.compile(ONE + "(?:;" + ONE + ")*");

        World w = new World();
        final ArrayDeque<World> history = new ArrayDeque<>();
        final World[] slots = new World[2];
        String pad = "";

        void record() {
            history.addLast(w.copy());
            if (history.size() > 6) {
                history.removeFirst();
            }
        }

        int set(int setting, int value) {
            int[] highest = {299, 299, 2, 5};
            if (setting < 0 || setting > 3 || value < 0 || value > highest[setting]) {
                return -2;
            }
            record();
            int before = w.settings[setting];
            w.settings[setting] = value;
            if (setting == 1 && w.begun && !w.over) {
                for (int i = 0; i < 3; i++) {
                    w.over |= w.at[i] > value;
                }
            }
            return before;
        }

        int stone(int walker, int key, int repeats, boolean recorded) {
            if (walker < 0 || walker > 2) {
                return -1;
            }
            if (key < 0 || key > 299 || repeats < 1 || repeats > 9) {
                return -2;
            }
            TreeMap<Integer, Integer> row = w.stones.get(walker);
            if (!row.containsKey(key) && row.size() == 40) {
                return -4;
            }
            if (recorded) {
                record();
            }
            Integer before = row.put(key, repeats);
            return before == null ? 0 : before;
        }

        int flood(int walker, int from, int to, boolean recorded) {
            if (walker != -6 && (walker < 0 || walker > 2)) {
                return -1;
            }
            if (from < 0 || from > 299 || to < from || to > 299) {
                return -2;
            }
            if (recorded) {
                record();
            }
            List<TreeMap<Integer, Integer>> taken = noStones();
            int many = 0;
            for (int i = 0; i < 3; i++) {
                for (int key = from; key <= to; key++) {
                    if ((walker == -6 || walker == i) && w.stones.get(i).containsKey(key)) {
                        taken.get(i).put(key, w.stones.get(i).remove(key));
                        many++;
                    }
                }
            }
            w.floods.add(taken);
            if (w.floods.size() > 4) {
                w.floods.remove(0);
            }
            for (int i = 0; i < 3; i++) {
                if (w.begun && w.at[i] != null && !w.stones.get(i).containsKey(w.at[i])) {
                    w.at[i] = w.stones.get(i).higherKey(w.at[i]);
                    if (!w.over) {
                        w.figures[i][2]++;
                    }
                }
            }
            look();
            return many;
        }

        int dry(boolean recorded) {
            if (w.floods.isEmpty()) {
                return -5;
            }
            List<TreeMap<Integer, Integer>> together = copyOf(w.stones);
            List<TreeMap<Integer, Integer>> taken = w.floods.get(w.floods.size() - 1);
            int many = 0;
            for (int i = 0; i < 3; i++) {
                for (int key : taken.get(i).keySet()) {
                    together.get(i).merge(key, taken.get(i).get(key), (a, b) -> Math.min(9, a + b));
                    many++;
                }
                if (together.get(i).size() > 40) {
                    return -4;
                }
            }
            if (recorded) {
                record();
            }
            w.stones = together;
            w.floods.remove(w.floods.size() - 1);
            return many;
        }

        void look() {
            if (!w.begun || w.over) {
                return;
            }
            int highest = w.goal;
            for (Integer key : w.at) {
                if (key == null || key > w.settings[1]) {
                    w.over = true;
                    return;
                }
                highest = Math.max(highest, key);
            }
            int key = w.at[0];
            if (key == w.at[1] && key == w.at[2] && key >= w.goal) {
                int rows = 1;
                for (TreeMap<Integer, Integer> row : w.stones) {
                    rows *= row.get(key);
                }
                w.meetings.add(new int[] {key, rows});
                w.goal = key + 1;
            } else {
                w.goal = highest;
            }
        }

        int begin(boolean recorded) {
            if (recorded) {
                record();
            }
            w.begun = true;
            w.over = false;
            w.goal = w.settings[0];
            w.turn = ORDERS[w.settings[3]].charAt(0) - '0';
            w.figures = new int[3][4];
            w.meetings.clear();
            for (int i = 0; i < 3; i++) {
                w.at[i] = w.stones.get(i).ceilingKey(w.goal);
            }
            look();
            return w.over ? 1 : 0;
        }

        int leap(boolean recorded) {
            if (!w.begun || w.over) {
                return -5;
            }
            if (recorded) {
                record();
            }
            String round = ORDERS[w.settings[3]] + ORDERS[w.settings[3]];
            int place = round.indexOf('0' + w.turn);
            while (w.at[round.charAt(place) - '0'] >= w.goal) {
                place++;
            }
            int walker = round.charAt(place) - '0';
            Integer to = w.stones.get(walker).ceilingKey(w.goal);
            w.figures[walker][0]++;
            w.figures[walker][1] += looks(walker);
            if (to != null) {
                w.figures[walker][3] = Math.max(w.figures[walker][3], to - w.at[walker]);
            }
            w.at[walker] = to;
            w.turn = round.charAt((place + 1) % 3) - '0';
            look();
            return walker;
        }

        int looks(int walker) {
            List<Integer> keys = new ArrayList<>(w.stones.get(walker).keySet());
            int i = keys.indexOf(w.at[walker]);
            int n = keys.size();
            List<Integer> seen = new ArrayList<>();
            if (w.settings[2] == 0) {
                for (int place = i + 1; place < n; place++) {
                    seen.add(place);
                    if (keys.get(place) >= w.goal) {
                        break;
                    }
                }
                return seen.size();
            }
            int p = i;
            int q = n;
            if (w.settings[2] == 1) {
                for (int far = 1; i + far < n; far = far + far) {
                    seen.add(i + far);
                    if (keys.get(i + far) >= w.goal) {
                        q = i + far;
                        break;
                    }
                    p = i + far;
                }
            }
            return seen.size() + halve(keys, p, q);
        }

        int halve(List<Integer> keys, int p, int q) {
            if (q - p <= 1) {
                return 0;
            }
            int middle = (p + q) / 2;
            return 1 + (keys.get(middle) < w.goal ? halve(keys, middle, q) : halve(keys, p, middle));
        }

        int run() {
            if (!w.begun || w.over) {
                return -5;
            }
            record();
            int many = 0;
            while (!w.over) {
                leap(false);
                many++;
            }
            return many;
        }

        int ofWalker(int walker, int what) {
            if (walker < 0 || walker > 2) {
                return -1;
            }
            if (what < 0 || what > 6) {
                return -2;
            }
            TreeMap<Integer, Integer> row = w.stones.get(walker);
            if (what == 0) {
                return row.size();
            }
            if (!w.begun) {
                return -6;
            }
            if (what == 1) {
                return w.at[walker] == null ? row.size() : row.headMap(w.at[walker]).size();
            }
            if (what == 2) {
                return w.at[walker] == null ? -6 : w.at[walker];
            }
            return w.figures[walker][what - 3];
        }

        int ofStone(int walker, int stone, int what) {
            if (walker < 0 || walker > 2 || stone < 0 || stone >= w.stones.get(walker).size()) {
                return -1;
            }
            if (what < 0 || what > 1) {
                return -2;
            }
            int key = new ArrayList<>(w.stones.get(walker).keySet()).get(stone);
            return what == 0 ? key : w.stones.get(walker).get(key);
        }

        int ofRun(int what) {
            if (what < 0 || what > 7) {
                return -2;
            }
            if (!w.begun) {
                return -6;
            }
            int rows = 0;
            for (int[] meeting : w.meetings) {
                rows += meeting[1];
            }
            int[] sums = new int[3];
            for (int i = 0; i < 9; i++) {
                sums[i / 3] += w.figures[i % 3][i / 3];
            }
            return new int[] {w.over ? 1 : 0, w.goal, w.turn, w.meetings.size(), rows, sums[0], sums[1], sums[2]}[what];
        }

        int meeting(int meeting, int what) {
            if (!w.begun || meeting < 0 || meeting >= w.meetings.size()) {
                return -1;
            }
            return what < 0 || what > 1 ? -2 : w.meetings.get(meeting)[what];
        }

        int count(int what) {
            if (what < 0 || what > 7) {
                return -2;
            }
            if (what > 1 && what < 6) {
                return w.settings[what - 2];
            }
            int stones = 0;
            for (TreeMap<Integer, Integer> row : w.stones) {
                stones += row.size();
            }
            return what == 0 ? stones : what == 1 ? w.floods.size() : what == 6 ? pad.length() : history.size();
        }

        int walking(int what) {
            if (what < 0 || what > 4) {
                return -2;
            }
            List<Integer> keys = new ArrayList<>();
            int rows = 0;
            int gap = -6;
            for (int key = w.settings[0]; key <= w.settings[1]; key++) {
                int product = 1;
                for (TreeMap<Integer, Integer> row : w.stones) {
                    product *= row.getOrDefault(key, 0);
                }
                if (product > 0) {
                    gap = keys.isEmpty() ? gap : Math.max(gap, key - keys.get(keys.size() - 1));
                    keys.add(key);
                    rows += product;
                }
            }
            int first = keys.isEmpty() ? -6 : keys.get(0);
            int last = keys.isEmpty() ? -6 : keys.get(keys.size() - 1);
            return new int[] {keys.size(), rows, first, last, gap}[what];
        }

        int lostBy(int from, int to) {
            if (from < 0 || from > 299 || to < from || to > 299) {
                return -2;
            }
            World before = w;
            w = before.copy();
            int rows = walking(1);
            flood(-6, from, to, false);
            rows -= walking(1);
            w = before;
            return rows;
        }

        int runWith(int search, int order, int what) {
            if (search < 0 || search > 2 || order < 0 || order > 5 || what < 0 || what > 1) {
                return -2;
            }
            World before = w;
            w = before.copy();
            w.settings[2] = search;
            w.settings[3] = order;
            begin(false);
            while (!w.over) {
                leap(false);
            }
            int answer = ofRun(5 + what);
            w = before;
            return answer;
        }

        int cheapest(int what) {
            if (what < 0 || what > 2) {
                return -2;
            }
            int[] best = {0, 0, Integer.MAX_VALUE};
            for (int i = 0; i < 18; i++) {
                int looks = runWith(i / 6, i % 6, 1);
                if (looks < best[2]) {
                    best = new int[] {i / 6, i % 6, looks};
                }
            }
            return best[what];
        }

        int put(String characters) {
            for (char c : characters.toCharArray()) {
                if (c < 33 || c > 126) {
                    return -2;
                }
            }
            if (pad.length() + characters.length() > 80) {
                return -4;
            }
            pad += characters;
            return pad.length();
        }

        int wipe() {
            int length = pad.length();
            pad = "";
            return length;
        }

        int fault() {
            for (int i = 1; i <= pad.length(); i++) {
                Matcher m = TEXT.matcher(pad.substring(0, i));
                if (!m.matches() && !m.hitEnd()) {
                    return i - 1;
                }
            }
            return TEXT.matcher(pad).matches() ? -6 : pad.length();
        }

        int carryOut() {
            if (!TEXT.matcher(pad).matches()) {
                return -3;
            }
            record();
            int whole = 0;
            for (String order : pad.split(";")) {
                if (!carry(order)) {
                    break;
                }
                whole++;
            }
            pad = "";
            return whole;
        }

        boolean carry(String order) {
            switch (order.charAt(0)) {
                case 'd':
                    return dry(false) >= 0;
                case 'g':
                    return begin(false) >= 0;
                case 'l':
                    return leap(false) >= 0;
                case 'f':
                    String[] range = order.substring(3).split("-");
                    int who = order.charAt(1) == '*' ? -6 : order.charAt(1) - '0';
                    return flood(who, Integer.parseInt(range[0]), Integer.parseInt(range[1]), false) >= 0;
                default:
                    return carryStones(order.charAt(0) - '0', order.substring(2).split(","));
            }
        }

        boolean carryStones(int walker, String[] pieces) {
            for (String piece : pieces) {
                String[] parts = piece.split("\\*");
                String[] keys = parts[0].split("-");
                int repeats = parts.length > 1 ? Integer.parseInt(parts[1]) : 1;
                for (int key = Integer.parseInt(keys[0]); key <= Integer.parseInt(keys[keys.length - 1]); key++) {
                    if (stone(walker, key, repeats, false) < 0) {
                        return false;
                    }
                }
            }
            return true;
        }

        int undo() {
            if (history.isEmpty()) {
                return -5;
            }
            w = history.removeLast();
            return history.size();
        }

        int save(int slot) {
            if (slot < 0 || slot > 1) {
                return -2;
            }
            slots[slot] = w.copy();
            return count(0);
        }

        int restore(int slot) {
            if (slot < 0 || slot > 1) {
                return -2;
            }
            if (slots[slot] == null) {
                return -5;
            }
            record();
            w = slots[slot].copy();
            return count(0);
        }
    }

    private final Dice dice;
    private final int keys;
    private final LeapStones x = new LeapStones();
    private final Model m = new Model();
    private final String name;
    private int made = 0;

    private ModelTest(int run) {
        name = "run " + run + ": ";
        dice = new Dice(run);
        keys = dice.pick(6, 12, 45, 300);
    }

    private void due(String call, int got, int want) {
        made++;
        Checks.due(name + call, got, want);
    }

    private int wild(int usual) {
        return dice.below(30) > 0 ? usual
            : dice.pick(-7, -6, -2, -1, 3, 6, 10, 299, 300, Integer.MAX_VALUE, Integer.MIN_VALUE);
    }

    private int key() {
        return wild(dice.below(keys));
    }

    private void call() {
        switch (dice.below(20)) {
            case 0 -> set();
            case 1, 2, 3, 4 -> stone();
            case 5, 6 -> flood();
            case 7 -> due("dry()", x.dry(), m.dry(true));
            case 8 -> due("begin()", x.begin(), m.begin(true));
            case 9, 10, 11, 12 -> due("leap()", x.leap(), m.leap(true));
            case 13 -> {
                if (dice.below(3) == 0) {
                    due("run()", x.run(), m.run());
                }
            }
            case 14, 15, 16 -> text();
            case 17 -> due("undo()", x.undo(), m.undo());
            default -> slot();
        }
    }

    private void set() {
        int setting = wild(dice.below(4));
        int value = wild(setting == 2 ? dice.below(3) : setting == 3 ? dice.below(6)
            : setting == 0 ? dice.below(4) : keys - 1 - dice.below(4));
        due("set(" + setting + ", " + value + ")", x.set(setting, value), m.set(setting, value));
    }

    private void stone() {
        int walker = wild(dice.below(3));
        int key = key();
        int repeats = wild(1 + dice.below(9));
        due("stone(" + walker + ", " + key + ", " + repeats + ")", x.stone(walker, key, repeats),
            m.stone(walker, key, repeats, true));
    }

    private void flood() {
        int walker = wild(dice.pick(0, 1, 2, -6));
        int from = key();
        int to = wild(Math.min(299, from) + dice.below(1 + keys / 8));
        due("flood(" + walker + ", " + from + ", " + to + ")", x.flood(walker, from, to),
            m.flood(walker, from, to, true));
    }

    private void slot() {
        int slot = wild(dice.below(2));
        if (dice.below(3) > 0) {
            due("save(" + slot + ")", x.save(slot), m.save(slot));
        } else {
            due("restore(" + slot + ")", x.restore(slot), m.restore(slot));
        }
    }

    private String piece() {
        String key = "" + dice.below(keys);
        String range = dice.below(3) == 0 ? key : key + "-" + dice.below(keys);
        return dice.below(2) == 0 ? range : range + "*" + (1 + dice.below(9));
    }

    private String order() {
        int kind = dice.below(10);
        if (kind < 5) {
            String order = dice.below(3) + ":" + piece();
            while (dice.below(3) == 0) {
                order += "," + piece();
            }
            return order;
        }
        if (kind < 7) {
            int from = dice.below(keys);
            int to = Math.max(0, from - 1 + dice.below(2 + keys / 8));
            return "f" + "012*".charAt(dice.below(4)) + ":" + from + "-" + Math.min(299, to);
        }
        return "" + "dgll".charAt(dice.below(4));
    }

    /** Makes a text, spoils some of them, and puts it on the pad. */
    private void text() {
        StringBuilder text = new StringBuilder(order());
        while (dice.below(3) > 0 && text.length() < 70) {
            text.append(';').append(order());
        }
        if (dice.below(4) == 0) {
            text.setCharAt(dice.below(text.length()), "0123459:;,-*fdgl !~".charAt(dice.below(19)));
        }
        if (dice.below(6) == 0) {
            text.setLength(dice.below(text.length()) + 1);
        }
        if (dice.below(4) > 0) {
            due("wipe()", x.wipe(), m.wipe());
        }
        for (int i = 0; i < text.length();) {
            int many = Math.min(text.length() - i, 1 + dice.below(8));
            String part = text.substring(i, i + many);
            due("put(" + part + ")", x.put(Checks.packed(part)), m.put(part));
            i += many;
        }
        due("fault() of " + m.pad, x.fault(), m.fault());
        due("carryOut() of " + m.pad, x.carryOut(), m.carryOut());
    }

    private boolean mayLook() {
        return made + DEAREST_LOOK <= CALLS;
    }

    private int callsToCompareAll() {
        return 90 + 2 * (m.w.meetings.size() + 2) + 2 * (m.count(0) + 6);
    }

    private void compareAll() {
        for (int what = -1; what < 9 && mayLook(); what++) {
            compare(what);
        }
        for (int i = -1; i <= m.w.meetings.size() && mayLook(); i++) {
            compareMeeting(i);
        }
        for (int walker = 0; walker < 3; walker++) {
            for (int i = -1; i <= m.w.stones.get(walker).size() && mayLook(); i++) {
                compareStone(walker, i);
            }
        }
    }

    private void compare(int what) {
        due("ofRun(" + what + ")", x.ofRun(what), m.ofRun(what));
        due("count(" + what + ")", x.count(what), m.count(what));
        due("walking(" + what + ")", x.walking(what), m.walking(what));
        for (int walker = -1; walker < 4; walker++) {
            due("ofWalker(" + walker + ", " + what + ")", x.ofWalker(walker, what), m.ofWalker(walker, what));
        }
    }

    private void compareMeeting(int meeting) {
        due("meeting(" + meeting + ", 0)", x.meeting(meeting, 0), m.meeting(meeting, 0));
        due("meeting(" + meeting + ", 1)", x.meeting(meeting, 1), m.meeting(meeting, 1));
    }

    private void compareStone(int walker, int stone) {
        due("ofStone(" + walker + ", " + stone + ", 0)", x.ofStone(walker, stone, 0), m.ofStone(walker, stone, 0));
        due("ofStone(" + walker + ", " + stone + ", 1)", x.ofStone(walker, stone, 1), m.ofStone(walker, stone, 1));
    }

    private void compareSome() {
        int what = wild(dice.below(8));
        int walker = wild(dice.below(3));
        switch (dice.below(8)) {
            case 0, 1 -> due("ofRun(" + what + ")", x.ofRun(what), m.ofRun(what));
            case 2, 3 -> due("ofWalker(" + walker + ", " + what + ")", x.ofWalker(walker, what), m.ofWalker(walker, what));
            case 4 -> due("count(" + what + ")", x.count(what), m.count(what));
            case 5 -> {
                int stone = dice.below(12);
                int part = wild(dice.below(2));
                due("ofStone(" + walker + ", " + stone + ", " + part + ")", x.ofStone(walker, stone, part),
                    m.ofStone(walker, stone, part));
            }
            case 6 -> {
                int part = wild(dice.below(2));
                due("meeting(" + what + ", " + part + ")", x.meeting(what, part), m.meeting(what, part));
            }
            default -> compareWhatIf();
        }
    }

    private void compareWhatIf() {
        switch (dice.below(4)) {
            case 0 -> {
                int from = key();
                int to = key();
                due("lostBy(" + from + ", " + to + ")", x.lostBy(from, to), m.lostBy(from, to));
            }
            case 1 -> {
                int search = wild(dice.below(3));
                int order = wild(dice.below(6));
                int what = wild(dice.below(2));
                due("runWith(" + search + ", " + order + ", " + what + ")", x.runWith(search, order, what),
                    m.runWith(search, order, what));
            }
            case 2 -> {
                int what = wild(dice.below(3));
                due("cheapest(" + what + ")", x.cheapest(what), m.cheapest(what));
            }
            default -> {
                int what = wild(dice.below(5));
                due("walking(" + what + ")", x.walking(what), m.walking(what));
            }
        }
    }

    private void run() {
        while (made + DEAREST_STEP + callsToCompareAll() < CALLS) {
            call();
            compareSome();
            compareSome();
        }
        compareAll();
        Checks.isTrue(name + "at most " + CALLS + " calls, not " + made, made <= CALLS);
    }

    public static void main(String[] args) {
        for (int run = 0; run < RUNS && Checks.wrongSoFar() < 20; run++) {
            new ModelTest(run).run();
        }
        Checks.close("ModelTest");
    }
}
