/** The sentences of 'Terms', 'Settings' and 'Stones', and how many calls an object is used for. */
final class EdgesOfTerms {
    private static final int ALL = LeapStones.NONE;
    private static final int[][] ORDERS = {{0, 1, 2}, {0, 2, 1}, {1, 0, 2}, {1, 2, 0}, {2, 0, 1}, {2, 1, 0}};

    private EdgesOfTerms() {
    }

    static void run() {
        calls512();
        errorCodes();
        firstErrorThatApplies();
        errorsChangeNothing();
        noneIsNoError();
        numberedFrom0();
        lowAndHigh();
        search();
        order();
        constants();
        threeWalkers();
        fortyStones();
        orderOfKeys();
        repeats();
    }

    private static void calls512() {
        Checks.says("What it is", "An object is used for at most 512 calls after it has been made; "
            + "what later calls answer is free.");
        LeapStones x = new LeapStones();
        for (int i = 0; i < 510; i++) {
            int before = i < 120 ? 0 : 1 + (i / 120 - 1) % 9;
            Checks.due("call " + i, x.stone(i % 3, i / 3 % 40, 1 + i / 120 % 9), before);
        }
        Checks.due("call 510: undo", x.undo(), 5);
        Checks.due("call 511: the 512th", x.ofStone(2, 9, 1), 4);
        LeapStones y = new LeapStones();
        for (int i = 0; i < 80; i++) {
            y.put('l');
            Checks.due("a leap without a run", y.carryOut(), 0);
            y.flood(ALL, 0, 299);
            Checks.due("floods", y.count(1), Math.min(4, i + 1));
            y.begin();
            y.save(i % 2);
        }
        for (int i = 0; i < 31; i++) {
            Checks.due("call " + (480 + i), y.restore(i % 2), 0);
        }
        Checks.due("the 512th call", y.undo(), 5);
    }

    private static void errorCodes() {
        Checks.says("Terms", "CONVENTIONS. A method that fails returns one of the error codes NO_SUCH (-1), "
            + "BAD_VALUE (-2), BAD_TEXT (-3), TOO_MANY (-4) and NOT_POSSIBLE (-5);");
        LeapStones x = Checks.river("0:0-39");
        Checks.due("NO_SUCH", x.ofWalker(3, 0), -1);
        Checks.due("BAD_VALUE", x.count(8), -2);
        Checks.due("BAD_TEXT", x.carryOut(), -3);
        Checks.due("TOO_MANY", x.stone(0, 40, 1), -4);
        Checks.due("NOT_POSSIBLE", x.dry(), -5);
    }

    private static void firstErrorThatApplies() {
        Checks.says("Terms", "it names its errors in the order in which they are checked, "
            + "and the first one that applies is returned.");
        LeapStones x = Checks.river("0:0-39");
        Checks.due("stone: NO_SUCH ahead of a bad key", x.stone(3, 300, 1), -1);
        Checks.due("stone: NO_SUCH ahead of bad repeats", x.stone(-1, 0, 0), -1);
        Checks.due("stone: BAD_VALUE ahead of TOO_MANY", x.stone(0, 40, 10), -2);
        Checks.due("stone: TOO_MANY, if nothing else is wrong", x.stone(0, 40, 9), -4);
        Checks.due("flood: NO_SUCH ahead of a bad from", x.flood(3, -1, 5), -1);
        Checks.due("flood: NO_SUCH ahead of a bad to", x.flood(-7, 5, 4), -1);
        Checks.due("ofWalker: NO_SUCH ahead of BAD_VALUE", x.ofWalker(3, 7), -1);
        Checks.due("ofStone: NO_SUCH (walker) ahead of BAD_VALUE", x.ofStone(3, 0, 2), -1);
        Checks.due("ofStone: NO_SUCH (stone) ahead of BAD_VALUE", x.ofStone(0, 40, 2), -1);
        Checks.due("meeting: NO_SUCH ahead of BAD_VALUE", x.meeting(0, 2), -1);
        Checks.due("restore: BAD_VALUE where nothing is saved", x.restore(2), -2);
        Checks.putText(x, "x".repeat(80));
        Checks.due("put: BAD_VALUE ahead of TOO_MANY", x.put(32), -2);
        Checks.due("put: no character ahead of TOO_MANY", x.put(0), -2);
        Checks.due("put: TOO_MANY, if nothing else is wrong", x.put('x'), -4);
    }

    /** A run that goes on, a flood that can't fall dry, a full pad with a fault, and a slot. */
    private static LeapStones busy() {
        LeapStones x = Checks.river("0:0-39*2;1:5,9*3;2:7,9*4;f0:0-3;0:50,51,52,53;g;l", "f2:9-9;2:8");
        x.save(0);
        Checks.due("a flood that takes nothing", x.flood(2, 9, 299), 0);
        Checks.due("gives nothing", x.dry(), 0);
        Checks.due("the one before gives 9", x.dry(), 1);
        x.set(LeapStones.SEARCH, 2);
        Checks.putText(x, "0:1;x" + "y".repeat(75));
        return x;
    }

    private static int fail(LeapStones x, int kind) {
        switch (kind) {
            case 0: return x.set(4, 0);
            case 1: return x.set(LeapStones.HIGH, 300);
            case 2: return x.set(LeapStones.ORDER, -1);
            case 3: return x.stone(3, 9, 1);
            case 4: return x.stone(1, 300, 1);
            case 5: return x.stone(1, 5, 10);
            case 6: return x.stone(0, 54, 1);
            case 7: return x.flood(3, 0, 299);
            case 8: return x.flood(ALL, 9, 8);
            case 9: return x.flood(ALL, 0, 300);
            case 10: return x.dry();
            case 11: return x.put(0);
            case 12: return x.put(';');
            case 13: return x.carryOut();
            case 14: return x.save(2);
            case 15: return x.restore(-1);
            case 16: return x.restore(1);
            case 17: return x.ofWalker(3, 0);
            case 18: return x.ofStone(1, 2, 0);
            case 19: return x.ofRun(8);
            case 20: return x.meeting(0, 0);
            case 21: return x.walking(5);
            case 22: return x.runWith(3, 0, 0);
            case 23: return x.cheapest(3);
            case 24: return x.lostBy(9, 8);
            default: return x.count(8);
        }
    }

    private static void errorsChangeNothing() {
        Checks.says("Terms", "A call that returns an error changes nothing.");
        int[] due = {-2, -2, -2, -1, -2, -2, -4, -1, -2, -2, -4, -2, -4, -3, -2, -2, -5, -1, -1, -2, -1, -2, -2, -2, -2, -2};
        for (int kind = 0; kind < due.length; kind++) {
            LeapStones x = busy();
            LeapStones twin = busy();
            Checks.due("failing call " + kind, fail(x, kind), due[kind]);
            same(x, twin, "failing call " + kind);
            Checks.due("history", x.count(7), twin.count(7));
            Checks.due("the fault of the pad", x.fault(), 4);
            Checks.due("the pad", x.wipe(), 80);
            Checks.due("undo", x.undo(), twin.undo());
            Checks.due("the floods", x.dry(), twin.dry());
            Checks.due("the slot", x.restore(0), twin.restore(0));
            same(x, twin, "then failing call " + kind);
        }
        LeapStones x = new LeapStones();
        Checks.due("leap", x.leap(), -5);
        Checks.due("run", x.run(), -5);
        Checks.due("dry", x.dry(), -5);
        Checks.due("undo", x.undo(), -5);
        Checks.due("no history", x.count(7), 0);
        same(x, new LeapStones(), "a new object");
        x = Checks.river("0:5;1:6;2:7;g;l");
        Checks.due("leap of a run that is over", x.leap(), -5);
        Checks.due("run of a run that is over", x.run(), -5);
        Checks.due("no history more", x.count(7), 1);
        same(x, Checks.river("0:5;1:6;2:7;g;l"), "a run that is over");
    }

    private static void same(LeapStones x, LeapStones twin, String when) {
        Checks.dueAll(when, Checks.everything(x), Checks.everything(twin));
    }

    private static void noneIsNoError() {
        Checks.says("Terms", "NONE (-6) is not an error; it is returned only if no error applies.");
        LeapStones x = new LeapStones();
        Checks.due("ofWalker without a run", x.ofWalker(2, 6), -6);
        Checks.due("ofWalker with a bad what", x.ofWalker(2, 7), -2);
        Checks.due("ofWalker of no walker", x.ofWalker(3, 6), -1);
        Checks.due("ofRun without a run", x.ofRun(7), -6);
        Checks.due("ofRun with a bad what", x.ofRun(8), -2);
        Checks.due("walking without keys", x.walking(4), -6);
        Checks.due("walking with a bad what", x.walking(5), -2);
        x.put('g');
        Checks.due("no fault", x.fault(), -6);
        Checks.due("and no error", x.carryOut(), 1);
    }

    private static void numberedFrom0() {
        Checks.says("Terms", "Everything is numbered from 0.");
        LeapStones x = Checks.river("0:7*5;1:7;2:7;g");
        Checks.due("setting 0", x.set(0, 1), 0);
        Checks.due("setting -1", x.set(-1, 1), -2);
        Checks.due("walker 0", x.ofWalker(0, 2), 7);
        Checks.due("walker -1", x.ofWalker(-1, 2), -1);
        Checks.due("place 0", x.ofWalker(0, 1), 0);
        Checks.due("stone 0", x.ofStone(0, 0, 1), 5);
        Checks.due("stone -1", x.ofStone(0, -1, 1), -1);
        Checks.due("stone 1, of one", x.ofStone(0, 1, 1), -1);
        Checks.due("meeting 0", x.meeting(0, 0), 7);
        Checks.due("meeting -1", x.meeting(-1, 0), -1);
        Checks.due("meeting 1, of one", x.meeting(1, 0), -1);
        Checks.due("slot 0", x.save(0), 3);
        Checks.due("slot -1", x.save(-1), -2);
        x.put('x');
        Checks.due("character 0", x.fault(), 0);
    }

    private static void rangeOf(int setting, int first, int highest) {
        Checks.due("first value", new LeapStones().count(2 + setting), first);
        Checks.due("-1", new LeapStones().set(setting, -1), -2);
        Checks.due("0", new LeapStones().set(setting, 0), first);
        Checks.due("the highest", new LeapStones().set(setting, highest), first);
        Checks.due("one more", new LeapStones().set(setting, highest + 1), -2);
        Checks.due("the lowest int", new LeapStones().set(setting, Integer.MIN_VALUE), -2);
        Checks.due("the highest int", new LeapStones().set(setting, Integer.MAX_VALUE), -2);
        for (int value = 0; value <= highest; value++) {
            LeapStones x = new LeapStones();
            x.set(setting, value);
            Checks.due("value " + value, x.count(2 + setting), value);
        }
    }

    private static void lowAndHigh() {
        Checks.says("Settings",
            "(In parentheses: range; first value.) LOW (0 to 299; 0) and HIGH (0 to 299; 299), keys.");
        rangeOf(LeapStones.LOW, 0, 299);
        rangeOf(LeapStones.HIGH, 299, 299);
        LeapStones x = Checks.river("0:0,299;1:0,299;2:0,299");
        x.set(LeapStones.LOW, 299);
        x.begin();
        Checks.due("LOW is a key: 299", x.ofWalker(0, 2), 299);
        x.set(LeapStones.LOW, 0);
        x.set(LeapStones.HIGH, 0);
        Checks.due("HIGH is a key: 0", x.begin(), 0);
    }

    private static void search() {
        Checks.says("Settings", "SEARCH (0 to 2; 1).");
        rangeOf(LeapStones.SEARCH, 1, 2);
    }

    private static void order() {
        Checks.says("Settings", "ORDER (0 to 5; 0): the order of turns: 0: 0, 1, 2; 1: 0, 2, 1; 2: 1, 0, 2; "
            + "3: 1, 2, 0; 4: 2, 0, 1; 5: 2, 1, 0.");
        rangeOf(LeapStones.ORDER, 0, 5);
        for (int order = 0; order < 6; order++) {
            LeapStones x = Checks.river("0:0-3;1:0-3;2:0-3");
            x.set(LeapStones.ORDER, order);
            x.begin();
            for (int i = 0; i < 9; i++) {
                Checks.due("leap " + i + " with ORDER " + order, x.leap(), ORDERS[order][i % 3]);
            }
        }
    }

    private static void constants() {
        Checks.says("Texts", "The constants: `NO_SUCH = -1, BAD_VALUE = -2, BAD_TEXT = -3, TOO_MANY = -4, "
            + "NOT_POSSIBLE = -5, NONE = -6`: Error codes, and NONE: there is none.");
        Checks.due("NO_SUCH", LeapStones.NO_SUCH, -1);
        Checks.due("BAD_VALUE", LeapStones.BAD_VALUE, -2);
        Checks.due("BAD_TEXT", LeapStones.BAD_TEXT, -3);
        Checks.due("TOO_MANY", LeapStones.TOO_MANY, -4);
        Checks.due("NOT_POSSIBLE", LeapStones.NOT_POSSIBLE, -5);
        Checks.due("NONE", LeapStones.NONE, -6);
        Checks.says("Texts", "`LOW = 0, HIGH = 1, SEARCH = 2, ORDER = 3`: Settings.");
        Checks.due("LOW", LeapStones.LOW, 0);
        Checks.due("HIGH", LeapStones.HIGH, 1);
        Checks.due("SEARCH", LeapStones.SEARCH, 2);
        Checks.due("ORDER", LeapStones.ORDER, 3);
    }

    private static void threeWalkers() {
        Checks.says("Stones", "There are three walkers, 0 to 2,");
        for (int walker = -1; walker <= 3; walker++) {
            boolean isOne = walker >= 0 && walker <= 2;
            Checks.due("stone of " + walker, new LeapStones().stone(walker, 0, 1), isOne ? 0 : -1);
            Checks.due("flood of " + walker, new LeapStones().flood(walker, 0, 0), isOne ? 0 : -1);
            Checks.due("ofWalker of " + walker, new LeapStones().ofWalker(walker, 0), isOne ? 0 : -1);
        }
        Checks.due("the lowest int", new LeapStones().ofWalker(Integer.MIN_VALUE, 0), -1);
        Checks.due("the highest int", new LeapStones().ofWalker(Integer.MAX_VALUE, 0), -1);
    }

    private static void fortyStones() {
        Checks.says("Stones", "each with up to 40 stones of its own,");
        LeapStones x = new LeapStones();
        for (int walker = 0; walker < 3; walker++) {
            for (int i = 0; i < 40; i++) {
                Checks.due("stone " + i + " of " + walker, x.stone(walker, 100 * walker + i, 1), 0);
            }
            Checks.due("a 41st one of " + walker, x.stone(walker, 299, 1), -4);
            Checks.due("they are 40", x.ofWalker(walker, 0), 40);
        }
        Checks.due("the last one of 2", x.ofStone(2, 39, 0), 239);
        Checks.due("the last one of 1", x.ofStone(1, 39, 0), 139);
        Checks.due("no 41st one", x.ofStone(1, 40, 0), -1);
        LeapStones y = Checks.river("0:5*2");
        Checks.due("1 has none of 0's", y.ofWalker(1, 0) + y.ofWalker(2, 0), 0);
        Checks.due("1 lays its own", y.stone(1, 5, 3), 0);
        Checks.due("0 has its own still", y.ofStone(0, 0, 1), 2);
    }

    private static void orderOfKeys() {
        Checks.says("Stones", "in the order of their keys (0 to 299, all unlike);");
        LeapStones x = new LeapStones();
        int[] keys = {150, 299, 0, 151, 149, 1, 298};
        for (int i = 0; i < keys.length; i++) {
            x.stone(0, keys[i], 1 + i);
        }
        Checks.dueAll("in order", Checks.stonesOf(x, 0), 0, 3, 1, 6, 149, 5, 150, 1, 151, 4, 298, 7, 299, 2);
        Checks.due("the same key is no other stone", x.stone(0, 150, 9), 1);
        Checks.due("seven still", x.ofWalker(0, 0), 7);
        Checks.due("key -1", x.stone(0, -1, 1), -2);
        Checks.due("key 300", x.stone(0, 300, 1), -2);
    }

    private static void repeats() {
        Checks.says("Stones", "a stone has repeats (1 to 9).");
        LeapStones x = new LeapStones();
        Checks.due("0", x.stone(0, 5, 0), -2);
        Checks.due("10", x.stone(0, 5, 10), -2);
        Checks.due("no stone was laid", x.count(0), 0);
        for (int repeats = 1; repeats <= 9; repeats++) {
            x.stone(0, 5, repeats);
            Checks.due("repeats " + repeats, x.ofStone(0, 0, 1), repeats);
        }
    }
}
