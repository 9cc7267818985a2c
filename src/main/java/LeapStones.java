/** Three walkers who leap for each other across a river on stones, and meet on keys that all three can reach. */
public final class LeapStones {
    public static final int NO_SUCH = -1, BAD_VALUE = -2, BAD_TEXT = -3, TOO_MANY = -4, NOT_POSSIBLE = -5, NONE = -6;
    public static final int LOW = 0, HIGH = 1, SEARCH = 2, ORDER = 3;

    private static final int WALKERS = 3;
    private static final int MOST_STONES = 40;
    private static final int LAST_KEY = 299;
    private static final int MOST_REPEATS = 9;
    private static final int LAST_SEARCH = 2;
    private static final int LAST_ORDER = 5;
    private static final int MOST_FLOODS = 4;
    private static final int MOST_CHANGES = 6;
    private static final int SLOTS = 2;
    private static final int MOST_SIGNS = 80;

    // A walker behind its last stone stands on this "key": it is above every HIGH, so the run is over there,
    // and above every key, so stones that are laid later stay before the walker.
    private static final int OFF = LAST_KEY + 1;

    // The goal grows with every meeting, and every leap passes a key: no run has more of either.
    private static final int MOST_MEETINGS = LAST_KEY + 1;
    private static final int MOST_LEAPS = 1000;

    // The six orders of turns, three walkers each.
    private static final int[] TURNS = {0, 1, 2, 0, 2, 1, 1, 0, 2, 1, 2, 0, 2, 0, 1, 2, 1, 0};

    private final Scene now = new Scene();
    private final Scene[] past = new Scene[MOST_CHANGES];
    private final Ring changes = new Ring(MOST_CHANGES);
    private final Scene[] slots = new Scene[SLOTS];
    private final boolean[] saved = new boolean[SLOTS];
    private final Pad pad = new Pad();
    private final Crossing trial = new Crossing();
    private final Settings trialSettings = new Settings();

    public LeapStones() {
        for (int i = 0; i < MOST_CHANGES; i++) {
            past[i] = new Scene();
        }
        for (int i = 0; i < SLOTS; i++) {
            slots[i] = new Scene();
        }
    }

    // ---- stones

    public int set(int setting, int value) {
        if (!isBetween(setting, LOW, ORDER) || !isBetween(value, 0, highestValue(setting))) {
            return BAD_VALUE;
        }
        remember();
        return now.changeSetting(setting, value);
    }

    public int stone(int walker, int key, int repeats) {
        int error = now.errorOfLaying(walker, key, repeats);
        if (error < 0) {
            return error;
        }
        remember();
        return now.lay(walker, key, repeats);
    }

    public int flood(int walker, int from, int to) {
        int error = now.errorOfFlooding(walker, from, to);
        if (error < 0) {
            return error;
        }
        remember();
        return now.takeAway(walker, from, to);
    }

    public int dry() {
        int error = now.errorOfDrying();
        if (error < 0) {
            return error;
        }
        remember();
        return now.giveBack();
    }

    // ---- the run

    public int begin() {
        remember();
        return now.start();
    }

    public int leap() {
        if (!now.crossing.goesOn()) {
            return NOT_POSSIBLE;
        }
        remember();
        return now.step();
    }

    public int run() {
        if (!now.crossing.goesOn()) {
            return NOT_POSSIBLE;
        }
        remember();
        return now.crossing.finish(now.river, now.settings);
    }

    // ---- what there is

    public int ofWalker(int walker, int what) {
        if (!isWalker(walker)) {
            return NO_SUCH;
        }
        if (!isBetween(what, 0, 6)) {
            return BAD_VALUE;
        }
        if (what == 0) {
            return now.river.pathOf(walker).size();
        }
        if (what == 1 && now.crossing.isBegun()) {
            return now.river.pathOf(walker).placeFrom(now.crossing.keyUnder(walker));
        }
        return now.crossing.figureOfWalker(walker, what);
    }

    public int ofStone(int walker, int stone, int what) {
        if (!isWalker(walker) || !isBetween(stone, 0, now.river.pathOf(walker).size() - 1)) {
            return NO_SUCH;
        }
        if (!isBetween(what, 0, 1)) {
            return BAD_VALUE;
        }
        Path path = now.river.pathOf(walker);
        return what == 0 ? path.keyAt(stone) : path.repeatsAt(stone);
    }

    public int ofRun(int what) {
        return isBetween(what, 0, 7) ? now.crossing.figure(what) : BAD_VALUE;
    }

    public int meeting(int meeting, int what) {
        if (!isBetween(meeting, 0, now.crossing.meetings() - 1)) {
            return NO_SUCH;
        }
        if (!isBetween(what, 0, 1)) {
            return BAD_VALUE;
        }
        return what == 0 ? now.crossing.keyOfMeeting(meeting) : now.crossing.rowsOfMeeting(meeting);
    }

    public int count(int what) {
        switch (what) {
            case 0:
                return now.river.stones();
            case 1:
                return now.floods.kept();
            case 2:
            case 3:
            case 4:
            case 5:
                return now.settings.valueOf(what - 2);
            case 6:
                return pad.length();
            case 7:
                return changes.kept();
            default:
                return BAD_VALUE;
        }
    }

    // ---- what if; nothing changes

    public int walking(int what) {
        int low = now.settings.valueOf(LOW);
        int high = now.settings.valueOf(HIGH);
        switch (what) {
            case 0:
                return now.river.sharedKeys(low, high);
            case 1:
                return now.river.rowsBetween(low, high);
            case 2:
                return now.river.firstShared(low, high);
            case 3:
                return now.river.lastShared(low, high);
            case 4:
                return now.river.widestGap(low, high);
            default:
                return BAD_VALUE;
        }
    }

    public int runWith(int search, int order, int what) {
        if (!isBetween(search, 0, LAST_SEARCH) || !isBetween(order, 0, LAST_ORDER) || !isBetween(what, 0, 1)) {
            return BAD_VALUE;
        }
        tryOut(search, order);
        return what == 0 ? trial.leaps() : trial.looks();
    }

    public int cheapest(int what) {
        if (!isBetween(what, 0, 2)) {
            return BAD_VALUE;
        }
        int bestSearch = 0;
        int bestOrder = 0;
        int fewest = NONE;
        for (int search = 0; search <= LAST_SEARCH; search++) {
            for (int order = 0; order <= LAST_ORDER; order++) {
                tryOut(search, order);
                if (fewest == NONE || trial.looks() < fewest) {
                    fewest = trial.looks();
                    bestSearch = search;
                    bestOrder = order;
                }
            }
        }
        return what == 0 ? bestSearch : what == 1 ? bestOrder : fewest;
    }

    public int lostBy(int from, int to) {
        if (!isRange(from, to)) {
            return BAD_VALUE;
        }
        int low = Math.max(from, now.settings.valueOf(LOW));
        int high = Math.min(to, now.settings.valueOf(HIGH));
        return now.river.rowsBetween(low, high);
    }

    // ---- texts

    public int put(long characters) {
        int many = signsIn(characters);
        if (many < 1) {
            return BAD_VALUE;
        }
        if (pad.length() + many > MOST_SIGNS) {
            return TOO_MANY;
        }
        for (int i = many - 1; i >= 0; i--) {
            pad.append(signOf(characters, i));
        }
        return pad.length();
    }

    public int wipe() {
        int length = pad.length();
        pad.clear();
        return length;
    }

    public int fault() {
        return pad.firstFault();
    }

    public int carryOut() {
        if (pad.firstFault() != NONE) {
            return BAD_TEXT;
        }
        remember();
        int whole = 0;
        pad.rewind();
        for (int i = 0; i < MOST_SIGNS; i++) {
            if (!pad.readOrder() || !carryOrder()) {
                break;
            }
            whole++;
            if (!pad.pass(';')) {
                break;
            }
        }
        pad.clear();
        return whole;
    }

    // ---- undo, saving

    public int undo() {
        if (changes.kept() == 0) {
            return NOT_POSSIBLE;
        }
        int place = changes.latest();
        if (isBetween(place, 0, past.length - 1)) {
            now.copyFrom(past[place]);
        }
        changes.dropLatest();
        return changes.kept();
    }

    public int save(int slot) {
        if (!isSlot(slot)) {
            return BAD_VALUE;
        }
        Scene into = slots[slot];
        if (into != null) {
            into.copyFrom(now);
        }
        saved[slot] = true;
        return now.river.stones();
    }

    public int restore(int slot) {
        if (!isSlot(slot)) {
            return BAD_VALUE;
        }
        if (!saved[slot]) {
            return NOT_POSSIBLE;
        }
        remember();
        now.copyFrom(slots[slot]);
        return now.river.stones();
    }

    // ---- what the calls share

    private void remember() {
        int place = changes.add();
        Scene into = isBetween(place, 0, past.length - 1) ? past[place] : null;
        if (into != null) {
            into.copyFrom(now);
        }
    }

    private void tryOut(int search, int order) {
        trialSettings.copyFrom(now.settings);
        trialSettings.change(SEARCH, search);
        trialSettings.change(ORDER, order);
        trial.start(now.river, trialSettings);
        trial.finish(now.river, trialSettings);
    }

    /** Carries the order out at which the pad's reader is; tells whether it did so whole. */
    private boolean carryOrder() {
        char kind = pad.kind();
        if (kind == 'f') {
            boolean can = now.errorOfFlooding(pad.walker(), pad.from(), pad.to()) == 0;
            if (can) {
                now.takeAway(pad.walker(), pad.from(), pad.to());
            }
            return can;
        }
        if (kind == 'd') {
            boolean can = now.errorOfDrying() == 0;
            if (can) {
                now.giveBack();
            }
            return can;
        }
        if (kind == 'g') {
            now.start();
            return true;
        }
        if (kind == 'l') {
            boolean can = now.crossing.goesOn();
            if (can) {
                now.step();
            }
            return can;
        }
        return carryStones();
    }

    private boolean carryStones() {
        for (int i = 0; i < MOST_SIGNS; i++) {
            if (!pad.readStones() || !layRange(pad.walker(), pad.from(), pad.to(), pad.repeats())) {
                return false;
            }
            if (!pad.pass(',')) {
                return true;
            }
        }
        return true;
    }

    private boolean layRange(int walker, int from, int to, int repeats) {
        for (int key = from; key <= to && key <= LAST_KEY; key++) {
            if (now.errorOfLaying(walker, key, repeats) < 0) {
                return false;
            }
            now.lay(walker, key, repeats);
        }
        return true;
    }

    /** How many characters the number holds; BAD_VALUE if it holds something else, too. */
    private static int signsIn(long characters) {
        for (int i = 0; i < 8; i++) {
            int sign = signOf(characters, i);
            if (sign == 0) {
                return characters >>> (8 * i) == 0 ? i : BAD_VALUE;
            }
            if (!isBetween(sign, 33, 126)) {
                return BAD_VALUE;
            }
        }
        return 8;
    }

    private static char signOf(long characters, int fromRight) {
        return (char) ((characters >>> (8 * fromRight)) & 255);
    }

    private static boolean isBetween(int value, int lowest, int highest) {
        return value >= lowest && value <= highest;
    }

    private static boolean isWalker(int walker) {
        return isBetween(walker, 0, WALKERS - 1);
    }

    private static boolean isSlot(int slot) {
        return isBetween(slot, 0, SLOTS - 1);
    }

    private static boolean isRange(int from, int to) {
        return isBetween(from, 0, LAST_KEY) && isBetween(to, from, LAST_KEY);
    }

    private static int highestValue(int setting) {
        switch (setting) {
            case SEARCH:
                return LAST_SEARCH;
            case ORDER:
                return LAST_ORDER;
            default:
                return LAST_KEY;
        }
    }

    private static int walkerInTurn(int order, int place) {
        int index = WALKERS * order + place;
        return index >= 0 && index < TURNS.length ? TURNS[index] : 0;
    }

    /** The walker who comes some turns behind another one, going round. */
    private static int walkerBehind(int order, int walker, int turns) {
        int place = 0;
        for (int i = 0; i < WALKERS; i++) {
            if (walkerInTurn(order, i) == walker) {
                place = i;
            }
        }
        return walkerInTurn(order, (place + turns) % WALKERS);
    }

    private static void copyRow(int[] from, int[] to, int length) {
        int many = Math.min(length, Math.min(from.length, to.length));
        if (many > 0) {
            System.arraycopy(from, 0, to, 0, many);
        }
    }

    private static int sumOf(int[] row) {
        int sum = 0;
        for (int number : row) {
            sum += number;
        }
        return sum;
    }

    /** The settings LOW, HIGH, SEARCH and ORDER. */
    private static final class Settings {
        private final int[] values = {0, LAST_KEY, 1, 0};

        int valueOf(int setting) {
            return isBetween(setting, LOW, ORDER) ? values[setting] : 0;
        }

        void change(int setting, int value) {
            if (isBetween(setting, LOW, ORDER)) {
                values[setting] = value;
            }
        }

        void copyFrom(Settings other) {
            copyRow(other.values, values, values.length);
        }
    }

    /** The stones of one walker, in the order of their keys. */
    private static final class Path {
        private final int[] keys = new int[MOST_STONES];
        private final int[] repeats = new int[MOST_STONES];
        private int size;

        int size() {
            return size;
        }

        /** The place of the first stone whose key is at least this one; behind the last stone if there is none. */
        int placeFrom(int key) {
            int low = 0;
            int high = size;
            for (int i = 0; i < MOST_STONES && low < high; i++) {
                int middle = (low + high) >> 1;
                if (keys[middle] < key) {
                    low = middle + 1;
                } else {
                    high = middle;
                }
            }
            return low;
        }

        int keyAt(int place) {
            return place >= 0 && place < size ? keys[place] : OFF;
        }

        int repeatsAt(int place) {
            return place >= 0 && place < size ? repeats[place] : 0;
        }

        int firstKeyFrom(int key) {
            return keyAt(placeFrom(key));
        }

        /** The repeats of the stone with this key, 0 if there is none. */
        int repeatsOf(int key) {
            for (int i = 0; i < size; i++) {
                if (keys[i] == key) {
                    return repeats[i];
                }
            }
            return 0;
        }

        boolean has(int key) {
            return repeatsOf(key) > 0;
        }

        boolean hasRoomFor(int key) {
            return size < MOST_STONES || repeatsOf(key) > 0;
        }

        /** Lays a stone, or gives the one with this key other repeats; does nothing if there is no room. */
        void lay(int key, int times) {
            int place = placeFrom(key);
            if (keyAt(place) != key) {
                if (size >= MOST_STONES) {
                    return;
                }
                for (int i = size; i > place; i--) {
                    keys[i] = keys[i - 1];
                    repeats[i] = repeats[i - 1];
                }
                keys[place] = key;
                size++;
            }
            repeats[place] = times;
        }

        /** Moves the stones of a range of keys to another path, which has to be empty. */
        void moveTo(Path other, int from, int to) {
            int left = 0;
            for (int i = 0; i < size; i++) {
                if (isBetween(keys[i], from, to)) {
                    other.lay(keys[i], repeats[i]);
                } else {
                    keys[left] = keys[i];
                    repeats[left] = repeats[i];
                    left++;
                }
            }
            size = left;
        }

        /** Whether the stones of another path and these have room here together. */
        boolean hasRoomForAll(Path other) {
            int together = size;
            for (int i = 0; i < other.size; i++) {
                if (!has(other.keys[i])) {
                    together++;
                }
            }
            return together <= MOST_STONES;
        }

        void addAll(Path other) {
            for (int i = 0; i < other.size; i++) {
                int key = other.keys[i];
                lay(key, Math.min(MOST_REPEATS, repeatsOf(key) + other.repeats[i]));
            }
        }

        /** How many looks it costs to find the first stone behind a place that is not short of the goal. */
        int looksFor(int search, int place, int goal) {
            switch (search) {
                case 0:
                    return looksOneByOne(place, goal);
                case 1:
                    return looksDoubling(place, goal);
                default:
                    return looksHalving(place, size, goal);
            }
        }

        private int looksOneByOne(int place, int goal) {
            int looks = 0;
            for (int i = place + 1; i < size; i++) {
                looks++;
                if (keyAt(i) >= goal) {
                    break;
                }
            }
            return looks;
        }

        private int looksDoubling(int place, int goal) {
            int looks = 0;
            int shortOf = place;
            int enough = size;
            for (int step = 1; place + step < size; step *= 2) {
                looks++;
                if (keyAt(place + step) >= goal) {
                    enough = place + step;
                    break;
                }
                shortOf = place + step;
            }
            return looks + looksHalving(shortOf, enough, goal);
        }

        private int looksHalving(int from, int to, int goal) {
            int looks = 0;
            int p = from;
            int q = to;
            for (int i = 0; i < MOST_STONES && q - p > 1; i++) {
                int middle = (p + q) >> 1;
                looks++;
                if (keyAt(middle) < goal) {
                    p = middle;
                } else {
                    q = middle;
                }
            }
            return looks;
        }

        void clear() {
            size = 0;
        }

        void copyFrom(Path other) {
            size = other.size;
            copyRow(other.keys, keys, size);
            copyRow(other.repeats, repeats, size);
        }
    }

    /** The stones of all three walkers: those in the river, or those that a flood took. */
    private static final class River {
        private final Path first = new Path();
        private final Path second = new Path();
        private final Path third = new Path();

        Path pathOf(int walker) {
            return walker == 0 ? first : walker == 1 ? second : third;
        }

        int stones() {
            return first.size() + second.size() + third.size();
        }

        /** The rows that a meeting on a key gives; 0 if one of the three has no stone there. */
        int rowsAt(int key) {
            return first.repeatsOf(key) * second.repeatsOf(key) * third.repeatsOf(key);
        }

        private boolean isShared(int key, int low, int high) {
            return isBetween(key, low, high) && rowsAt(key) > 0;
        }

        int sharedKeys(int low, int high) {
            int many = 0;
            for (int i = 0; i < first.size(); i++) {
                if (isShared(first.keyAt(i), low, high)) {
                    many++;
                }
            }
            return many;
        }

        int rowsBetween(int low, int high) {
            int rows = 0;
            for (int i = 0; i < first.size(); i++) {
                if (isBetween(first.keyAt(i), low, high)) {
                    rows += rowsAt(first.keyAt(i));
                }
            }
            return rows;
        }

        int firstShared(int low, int high) {
            for (int i = 0; i < first.size(); i++) {
                if (isShared(first.keyAt(i), low, high)) {
                    return first.keyAt(i);
                }
            }
            return NONE;
        }

        int lastShared(int low, int high) {
            for (int i = first.size() - 1; i >= 0; i--) {
                if (isShared(first.keyAt(i), low, high)) {
                    return first.keyAt(i);
                }
            }
            return NONE;
        }

        /** The greatest difference of two shared keys that follow one another, NONE if there are fewer than two. */
        int widestGap(int low, int high) {
            int widest = NONE;
            int before = NONE;
            for (int i = 0; i < first.size(); i++) {
                int key = first.keyAt(i);
                if (isShared(key, low, high)) {
                    if (before != NONE) {
                        widest = Math.max(widest, key - before);
                    }
                    before = key;
                }
            }
            return widest;
        }

        void clear() {
            first.clear();
            second.clear();
            third.clear();
        }

        void copyFrom(River other) {
            if (other == null) {
                return;
            }
            first.copyFrom(other.first);
            second.copyFrom(other.second);
            third.copyFrom(other.third);
        }
    }

    /** Counts through places of which the newest entry takes the oldest one's when all are full. */
    private static final class Ring {
        private final int places;
        private int next;
        private int kept;

        Ring(int places) {
            this.places = places;
        }

        int kept() {
            return kept;
        }

        /** Makes an entry, and returns its place. */
        int add() {
            int place = next;
            next = next + 1 < places ? next + 1 : 0;
            kept = Math.min(kept + 1, places);
            return place;
        }

        int latest() {
            return next > 0 ? next - 1 : places - 1;
        }

        void dropLatest() {
            if (kept > 0) {
                next = latest();
                kept--;
            }
        }

        void copyFrom(Ring other) {
            next = other.next;
            kept = other.kept;
        }
    }

    /** What the latest floods took. */
    private static final class Floods {
        private final River[] taken = new River[MOST_FLOODS];
        private final Ring ring = new Ring(MOST_FLOODS);

        Floods() {
            for (int i = 0; i < MOST_FLOODS; i++) {
                taken[i] = new River();
            }
        }

        int kept() {
            return ring.kept();
        }

        private River at(int place) {
            return isBetween(place, 0, taken.length - 1) ? taken[place] : null;
        }

        /** Keeps a new flood, which has taken nothing yet. */
        River addEmpty() {
            River flood = at(ring.add());
            if (flood != null) {
                flood.clear();
            }
            return flood;
        }

        /** What the latest flood took, null if none is kept. */
        River latest() {
            return ring.kept() > 0 ? at(ring.latest()) : null;
        }

        void dropLatest() {
            ring.dropLatest();
        }

        void copyFrom(Floods other) {
            ring.copyFrom(other.ring);
            for (int i = 0; i < MOST_FLOODS; i++) {
                River flood = at(i);
                if (flood != null) {
                    flood.copyFrom(other.at(i));
                }
            }
        }
    }

    /** A run of the three walkers. */
    private static final class Crossing {
        private boolean begun;
        private boolean over;
        private int goal;
        private int turn;
        private int meetings;
        private final int[] meetingKeys = new int[MOST_MEETINGS];
        private final int[] meetingRows = new int[MOST_MEETINGS];
        private final int[] standing = new int[WALKERS];
        private final int[] leaps = new int[WALKERS];
        private final int[] looks = new int[WALKERS];
        private final int[] slips = new int[WALKERS];
        private final int[] farthest = new int[WALKERS];

        boolean isBegun() {
            return begun;
        }

        boolean isOver() {
            return over;
        }

        boolean goesOn() {
            return begun && !over;
        }

        int leaps() {
            return sumOf(leaps);
        }

        int looks() {
            return sumOf(looks);
        }

        int meetings() {
            return meetings;
        }

        int keyUnder(int walker) {
            return isWalker(walker) ? standing[walker] : OFF;
        }

        int keyOfMeeting(int meeting) {
            return isBetween(meeting, 0, meetings - 1) ? meetingKeys[meeting] : NONE;
        }

        int rowsOfMeeting(int meeting) {
            return isBetween(meeting, 0, meetings - 1) ? meetingRows[meeting] : 0;
        }

        void start(River river, Settings settings) {
            begun = true;
            over = false;
            meetings = 0;
            goal = settings.valueOf(LOW);
            turn = walkerInTurn(settings.valueOf(ORDER), 0);
            for (int i = 0; i < WALKERS; i++) {
                standing[i] = river.pathOf(i).firstKeyFrom(goal);
                leaps[i] = 0;
                looks[i] = 0;
                slips[i] = 0;
                farthest[i] = 0;
            }
            lookRound(river, settings.valueOf(HIGH));
        }

        /** Makes the next leap, and returns the walker who leaps. */
        int step(River river, Settings settings) {
            int order = settings.valueOf(ORDER);
            int walker = nextToLeap(order);
            if (!isWalker(walker)) {
                return NOT_POSSIBLE;
            }
            Path path = river.pathOf(walker);
            int from = standing[walker];
            int to = path.firstKeyFrom(goal);
            leaps[walker]++;
            looks[walker] += path.looksFor(settings.valueOf(SEARCH), path.placeFrom(from), goal);
            if (to != OFF) {
                farthest[walker] = Math.max(farthest[walker], to - from);
            }
            standing[walker] = to;
            turn = walkerBehind(order, walker, 1);
            lookRound(river, settings.valueOf(HIGH));
            return walker;
        }

        /** Makes leaps until the run is over, and returns how many. */
        int finish(River river, Settings settings) {
            int many = 0;
            while (many < MOST_LEAPS && goesOn()) {
                step(river, settings);
                many++;
            }
            return many;
        }

        private int nextToLeap(int order) {
            for (int i = 0; i < WALKERS; i++) {
                int walker = walkerBehind(order, turn, i);
                if (keyUnder(walker) < goal) {
                    return walker;
                }
            }
            return NONE;
        }

        void lookRound(River river, int high) {
            endAbove(high);
            if (!goesOn()) {
                return;
            }
            int key = standing[0];
            if (key == standing[1] && key == standing[2] && key >= goal) {
                meet(key, river.rowsAt(key));
                goal = key + 1;
            } else {
                goal = Math.max(goal, highestKey());
            }
        }

        private void meet(int key, int rows) {
            if (meetings < MOST_MEETINGS) {
                meetingKeys[meetings] = key;
                meetingRows[meetings] = rows;
                meetings++;
            }
        }

        private int highestKey() {
            return Math.max(standing[0], Math.max(standing[1], standing[2]));
        }

        /** The run is over if a walker stands above HIGH (as it does behind its last stone). */
        void endAbove(int high) {
            if (begun && highestKey() > high) {
                over = true;
            }
        }

        /** Walkers whose stones a flood took go to their next ones; of a run that is over, that is no slip. */
        void slip(River river) {
            if (!begun) {
                return;
            }
            for (int i = 0; i < WALKERS; i++) {
                Path path = river.pathOf(i);
                if (standing[i] != OFF && !path.has(standing[i])) {
                    standing[i] = path.firstKeyFrom(standing[i]);
                    slips[i] += over ? 0 : 1;
                }
            }
        }

        int figureOfWalker(int walker, int what) {
            if (!begun || !isWalker(walker)) {
                return NONE;
            }
            switch (what) {
                case 2:
                    return standing[walker] == OFF ? NONE : standing[walker];
                case 3:
                    return leaps[walker];
                case 4:
                    return looks[walker];
                case 5:
                    return slips[walker];
                case 6:
                    return farthest[walker];
                default:
                    return NONE;
            }
        }

        int figure(int what) {
            if (!begun) {
                return NONE;
            }
            switch (what) {
                case 0:
                    return over ? 1 : 0;
                case 1:
                    return goal;
                case 2:
                    return turn;
                case 3:
                    return meetings;
                case 4:
                    return rowsTogether();
                case 5:
                    return sumOf(leaps);
                case 6:
                    return sumOf(looks);
                case 7:
                    return sumOf(slips);
                default:
                    return NONE;
            }
        }

        private int rowsTogether() {
            int rows = 0;
            for (int i = 0; i < meetings; i++) {
                rows += rowsOfMeeting(i);
            }
            return rows;
        }

        void copyFrom(Crossing other) {
            begun = other.begun;
            over = other.over;
            goal = other.goal;
            turn = other.turn;
            meetings = other.meetings;
            copyRow(other.meetingKeys, meetingKeys, meetings);
            copyRow(other.meetingRows, meetingRows, meetings);
            copyRow(other.standing, standing, WALKERS);
            copyRow(other.leaps, leaps, WALKERS);
            copyRow(other.looks, looks, WALKERS);
            copyRow(other.slips, slips, WALKERS);
            copyRow(other.farthest, farthest, WALKERS);
        }
    }

    /** Everything that undo and the slots keep. */
    private static final class Scene {
        private final Settings settings = new Settings();
        private final River river = new River();
        private final Floods floods = new Floods();
        private final Crossing crossing = new Crossing();

        /** Changes a setting, and returns its previous value. */
        int changeSetting(int setting, int value) {
            int before = settings.valueOf(setting);
            settings.change(setting, value);
            if (setting == HIGH) {
                crossing.endAbove(value);
            }
            return before;
        }

        int errorOfLaying(int walker, int key, int repeats) {
            if (!isWalker(walker)) {
                return NO_SUCH;
            }
            if (!isBetween(key, 0, LAST_KEY) || !isBetween(repeats, 1, MOST_REPEATS)) {
                return BAD_VALUE;
            }
            return river.pathOf(walker).hasRoomFor(key) ? 0 : TOO_MANY;
        }

        /** Lays a stone, and returns the repeats that it had before. */
        int lay(int walker, int key, int repeats) {
            Path path = river.pathOf(walker);
            int before = path.repeatsOf(key);
            path.lay(key, repeats);
            return before;
        }

        int errorOfFlooding(int walker, int from, int to) {
            if (walker != NONE && !isWalker(walker)) {
                return NO_SUCH;
            }
            return isRange(from, to) ? 0 : BAD_VALUE;
        }

        /** Floods a walker's stones, or all with NONE, and returns how many are taken. */
        int takeAway(int walker, int from, int to) {
            River taken = floods.addEmpty();
            if (taken == null) {
                return 0;
            }
            for (int i = 0; i < WALKERS; i++) {
                if (walker == NONE || walker == i) {
                    river.pathOf(i).moveTo(taken.pathOf(i), from, to);
                }
            }
            crossing.slip(river);
            crossing.lookRound(river, settings.valueOf(HIGH));
            return taken.stones();
        }

        int errorOfDrying() {
            River taken = floods.latest();
            if (taken == null) {
                return NOT_POSSIBLE;
            }
            for (int i = 0; i < WALKERS; i++) {
                if (!river.pathOf(i).hasRoomForAll(taken.pathOf(i))) {
                    return TOO_MANY;
                }
            }
            return 0;
        }

        /** Gives back what the latest flood took, and returns how many stones that are. */
        int giveBack() {
            River taken = floods.latest();
            if (taken == null) {
                return 0;
            }
            for (int i = 0; i < WALKERS; i++) {
                river.pathOf(i).addAll(taken.pathOf(i));
            }
            floods.dropLatest();
            return taken.stones();
        }

        /** Begins a run, and returns 1 if it is over already, otherwise 0. */
        int start() {
            crossing.start(river, settings);
            return crossing.isOver() ? 1 : 0;
        }

        int step() {
            return crossing.step(river, settings);
        }

        void copyFrom(Scene other) {
            if (other == null) {
                return;
            }
            settings.copyFrom(other.settings);
            river.copyFrom(other.river);
            floods.copyFrom(other.floods);
            crossing.copyFrom(other.crossing);
        }
    }

    /** A text of orders, and where it is being read. A reader that answers false stands at the fault. */
    private static final class Pad {
        private final char[] signs = new char[MOST_SIGNS];
        private int length;
        private int at;
        private char kind;
        private int walker;
        private int from;
        private int to;
        private int repeats;

        int length() {
            return length;
        }

        /** The letter of the order that was read, or the digit of its walker if it lays stones. */
        char kind() {
            return kind;
        }

        int walker() {
            return walker;
        }

        int from() {
            return from;
        }

        int to() {
            return to;
        }

        int repeats() {
            return repeats;
        }

        void append(char sign) {
            if (length < MOST_SIGNS) {
                signs[length] = sign;
                length++;
            }
        }

        void clear() {
            length = 0;
            at = 0;
        }

        void rewind() {
            at = 0;
        }

        int firstFault() {
            rewind();
            for (int i = 0; i < MOST_SIGNS; i++) {
                if (!readWholeOrder()) {
                    return at;
                }
                if (!pass(';')) {
                    break;
                }
            }
            return at < length ? at : NONE;
        }

        private boolean readWholeOrder() {
            if (!readOrder()) {
                return false;
            }
            if (!isBetween(kind, '0', '2')) {
                return true;
            }
            for (int i = 0; i < MOST_SIGNS; i++) {
                if (!readStones()) {
                    return false;
                }
                if (!pass(',')) {
                    return true;
                }
            }
            return true;
        }

        /** Reads an order; of one that lays stones only what stands ahead of them. */
        boolean readOrder() {
            kind = next();
            if (kind == 'd' || kind == 'g' || kind == 'l') {
                at++;
                return true;
            }
            if (kind == 'f') {
                at++;
                return readFlood();
            }
            return readWalker() && pass(':');
        }

        private boolean readFlood() {
            if (pass('*')) {
                walker = NONE;
            } else if (!readWalker()) {
                return false;
            }
            if (!pass(':')) {
                return false;
            }
            from = readKey();
            if (from == NONE || !pass('-')) {
                return false;
            }
            to = readKey();
            return to != NONE;
        }

        private boolean readWalker() {
            if (!isBetween(next(), '0', '2')) {
                return false;
            }
            walker = next() - '0';
            at++;
            return true;
        }

        /** Reads a key or a range of keys, with repeats or without. */
        boolean readStones() {
            from = readKey();
            if (from == NONE) {
                return false;
            }
            to = pass('-') ? readKey() : from;
            if (to == NONE) {
                return false;
            }
            repeats = 1;
            return !pass('*') || readRepeats();
        }

        private boolean readRepeats() {
            if (!isBetween(next(), '1', '9')) {
                return false;
            }
            repeats = next() - '0';
            at++;
            return true;
        }

        /** Reads digits as long as they make a key; NONE if there is none. */
        private int readKey() {
            int key = NONE;
            for (int i = 0; i < 3 && isBetween(next(), '0', '9'); i++) {
                int digit = next() - '0';
                int longer = key == NONE ? digit : 10 * key + digit;
                if (key == 0 || longer > LAST_KEY) {
                    break;
                }
                key = longer;
                at++;
            }
            return key;
        }

        /** Goes past a sign if it is the next one. */
        boolean pass(char sign) {
            if (next() != sign) {
                return false;
            }
            at++;
            return true;
        }

        /** The next sign, one that no text holds if the text is at its end. */
        private char next() {
            return at >= 0 && at < length ? signs[at] : 0;
        }
    }
}
