/** The sentences of promises 1 to 3. */
final class EdgesOfStones {
    private EdgesOfStones() {
    }

    static void run() {
        newObject();
        setChanges();
        setGoesOn();
        setLeavesTurnAndPlaces();
        setAboveHigh();
        setReturns();
        stoneLays();
        stoneWalkersStay();
        stoneRanges();
        stoneReturns();
    }

    private static void newObject() {
        Checks.says("Promise 1", "Creates a river without stones.");
        LeapStones x = new LeapStones();
        Checks.due("stones", x.count(0), 0);
        for (int walker = 0; walker < 3; walker++) {
            Checks.due("of " + walker, x.ofWalker(walker, 0), 0);
            Checks.due("stone 0 of " + walker, x.ofStone(walker, 0, 0), -1);
        }
        Checks.due("floods", x.count(1), 0);
        Checks.due("the pad", x.count(6), 0);
        Checks.due("changes", x.count(7), 0);
        Checks.due("slot 0", x.restore(0), -5);
        Checks.due("slot 1", x.restore(1), -5);
        LeapStones other = new LeapStones();
        other.stone(0, 5, 1);
        Checks.due("another object's stones are its own", x.count(0), 0);
    }

    private static void setChanges() {
        Checks.says("Promise 2", "Changes a setting");
        int[] values = {7, 17, 2, 4};
        for (int setting = 0; setting < 4; setting++) {
            LeapStones x = new LeapStones();
            x.set(setting, values[setting]);
            for (int other = 0; other < 4; other++) {
                int due = other == setting ? values[other] : new LeapStones().count(2 + other);
                Checks.due("setting " + other + ", set " + setting, x.count(2 + other), due);
            }
        }
    }

    private static void setGoesOn() {
        Checks.says("Promise 2", "(a run that is not over goes on with it;");
        LeapStones x = Checks.river("0:0-9;1:9;2:9;g");
        x.set(LeapStones.SEARCH, 0);
        x.leap();
        Checks.due("SEARCH 0 from now on", x.ofWalker(0, 4), 9);
        LeapStones y = Checks.river("0:5,6,9;1:5,6,9;2:5,6,9;g;l");
        y.set(LeapStones.ORDER, 3);
        Checks.due("1, whose turn it is", y.leap(), 1);
        Checks.due("2 behind it", y.leap(), 2);
        Checks.due("0 behind 2", y.leap(), 0);
        y.set(LeapStones.ORDER, 5);
        Checks.due("the turn is 1's", y.leap(), 1);
        Checks.due("0 behind 1 with ORDER 5", y.ofRun(2), 0);
        LeapStones z = Checks.river("0:1,30;1:2;2:3");
        z.set(LeapStones.HIGH, 20);
        z.begin();
        z.set(LeapStones.HIGH, 30);
        z.leap();
        Checks.due("a greater HIGH", z.ofRun(0), 0);
        z.begin();
        z.set(LeapStones.HIGH, 29);
        Checks.due("a lesser HIGH, but none is above it", z.ofRun(0), 0);
        z.leap();
        Checks.due("then one is", z.ofRun(0), 1);
        LeapStones w = Checks.river("0:5,9;1:6,9;2:6,9;g");
        w.set(LeapStones.LOW, 299);
        Checks.due("a new LOW is for the next run", w.ofRun(1), 6);
        w.leap();
        Checks.due("the goal grows by stones alone", w.ofRun(1), 9);
    }

    private static void setLeavesTurnAndPlaces() {
        Checks.says("Promise 2", "its turn, and who stands where, stay;");
        for (int setting = 0; setting < 4; setting++) {
            for (int value = 0; value < 3; value++) {
                LeapStones x = Checks.river("0:5,6,9;1:5,6,9;2:5,6,9;g;l");
                x.set(setting, setting == LeapStones.HIGH ? 6 + value : value);
                Checks.due("the turn", x.ofRun(2), 1);
                Checks.due("0", x.ofWalker(0, 2), 6);
                Checks.due("1", x.ofWalker(1, 2), 5);
                Checks.due("2", x.ofWalker(2, 2), 5);
                Checks.due("the goal", x.ofRun(1), 6);
                Checks.due("not over", x.ofRun(0), 0);
            }
        }
        for (int order = 0; order < 6; order++) {
            for (int turn = 0; turn < 3; turn++) {
                LeapStones x = Checks.river("0:5,6;1:5,6;2:5,6");
                x.set(LeapStones.ORDER, 2 * turn);
                x.begin();
                x.set(LeapStones.ORDER, order);
                Checks.due("turn " + turn + " with ORDER " + order, x.ofRun(2), turn);
                Checks.due("it leaps", x.leap(), turn);
            }
        }
    }

    private static void setAboveHigh() {
        Checks.says("Promise 2", "if a walker stands on a stone whose key is above a new HIGH, "
            + "it is over at once, and stays so). This is a change.");
        for (int walker = 0; walker < 3; walker++) {
            LeapStones x = new LeapStones();
            for (int i = 0; i < 3; i++) {
                x.stone(i, i == walker ? 20 : 10, 1);
                x.stone(i, 30, 1);
            }
            x.begin();
            x.set(LeapStones.HIGH, 20);
            Checks.due(walker + " on HIGH", x.ofRun(0), 0);
            x.set(LeapStones.HIGH, 19);
            Checks.due(walker + " above HIGH", x.ofRun(0), 1);
            Checks.due("no leap", x.leap(), -5);
            x.set(LeapStones.HIGH, 299);
            Checks.due("it stays so", x.ofRun(0), 1);
            Checks.due("no leap then", x.leap(), -5);
            x.undo();
            x.undo();
            Checks.due("undone", x.ofRun(0), 0);
        }
        LeapStones x = new LeapStones();
        x.set(LeapStones.HIGH, 0);
        Checks.due("no run is over by that", x.ofRun(0), -6);
        Checks.due("a change", x.count(7), 1);
        x.set(LeapStones.HIGH, 0);
        Checks.due("a change, also to the same value", x.count(7), 2);
        LeapStones y = Checks.river("0:5;1:5;2:5;g");
        y.set(LeapStones.LOW, 299);
        Checks.due("a LOW above all keys does not end it", y.ofRun(0), 0);
    }

    private static void setReturns() {
        Checks.says("Promise 2", "Returns the previous value; BAD_VALUE if there is no such setting, "
            + "or the value is out of its range.");
        LeapStones x = new LeapStones();
        Checks.due("the first value of HIGH", x.set(LeapStones.HIGH, 5), 299);
        Checks.due("the previous one", x.set(LeapStones.HIGH, 5), 5);
        Checks.due("the same", x.set(LeapStones.HIGH, 6), 5);
        Checks.due("setting -1", x.set(-1, 0), -2);
        Checks.due("setting 4", x.set(4, 0), -2);
        Checks.due("the lowest int", x.set(Integer.MIN_VALUE, 0), -2);
        Checks.due("the highest int", x.set(Integer.MAX_VALUE, 0), -2);
        Checks.due("3 is one of HIGH", x.set(LeapStones.HIGH, 3), 6);
        Checks.due("but none of SEARCH", x.set(LeapStones.SEARCH, 3), -2);
        Checks.due("3 is one of ORDER", x.set(LeapStones.ORDER, 3), 0);
        Checks.due("6 is none of ORDER", x.set(LeapStones.ORDER, 6), -2);
        Checks.due("6 is one of LOW", x.set(LeapStones.LOW, 6), 0);
        Checks.due("300 is none of LOW", x.set(LeapStones.LOW, 300), -2);
        Checks.due("-1 is none of LOW", x.set(LeapStones.LOW, -1), -2);
    }

    private static void stoneLays() {
        Checks.says("Promise 3", "Lays a stone, or gives one that is there other repeats.");
        LeapStones x = new LeapStones();
        x.stone(1, 5, 2);
        Checks.dueAll("laid", Checks.stonesOf(x, 1), 5, 2);
        x.stone(1, 5, 7);
        Checks.dueAll("other repeats, which are not added", Checks.stonesOf(x, 1), 5, 7);
        x.stone(1, 5, 1);
        Checks.dueAll("also fewer", Checks.stonesOf(x, 1), 5, 1);
        x.stone(1, 6, 3);
        x.stone(1, 4, 9);
        Checks.dueAll("beside it", Checks.stonesOf(x, 1), 4, 9, 5, 1, 6, 3);
        Checks.due("of one walker", x.count(0), 3);
    }

    private static void stoneWalkersStay() {
        Checks.says("Promise 3", "(Walkers stay on their stones.) This is a change.");
        LeapStones x = Checks.river("0:5,9;1:5,9;2:6,9;g");
        x.stone(0, 4, 1);
        Checks.due("place, with one laid ahead of it", x.ofWalker(0, 1), 1);
        Checks.due("key", x.ofWalker(0, 2), 5);
        x.stone(0, 7, 1);
        x.stone(0, 5, 9);
        Checks.due("place, with others", x.ofWalker(0, 1), 1);
        Checks.due("key", x.ofWalker(0, 2), 5);
        Checks.due("the goal", x.ofRun(1), 6);
        Checks.due("changes", x.count(7), 4);
        x.undo();
        Checks.due("undone", x.ofStone(0, 1, 1), 1);
        x.stone(0, 5, 1);
        Checks.due("a change, also with the same repeats", x.count(7), 4);
        LeapStones y = Checks.river("0:5;1:5,6;2:6;g;l");
        y.stone(0, 4, 1);
        y.stone(0, 299, 1);
        Checks.due("behind the last stone", y.ofWalker(0, 1), 3);
        Checks.due("over", y.ofRun(0), 1);
    }

    private static void stoneRanges() {
        Checks.says("Promise 3", "- `key`: 0 to 299");
        LeapStones x = new LeapStones();
        Checks.due("-1", x.stone(0, -1, 1), -2);
        Checks.due("0", x.stone(0, 0, 1), 0);
        Checks.due("299", x.stone(0, 299, 1), 0);
        Checks.due("300", x.stone(0, 300, 1), -2);
        Checks.due("the lowest int", x.stone(0, Integer.MIN_VALUE, 1), -2);
        Checks.due("the highest int", x.stone(0, Integer.MAX_VALUE, 1), -2);
        Checks.dueAll("two were laid", Checks.stonesOf(x, 0), 0, 1, 299, 1);

        Checks.says("Promise 3", "- `repeats`: 1 to 9");
        Checks.due("0", x.stone(1, 5, 0), -2);
        Checks.due("1", x.stone(1, 5, 1), 0);
        Checks.due("9", x.stone(1, 6, 9), 0);
        Checks.due("10", x.stone(1, 7, 10), -2);
        Checks.due("the lowest int", x.stone(1, 7, Integer.MIN_VALUE), -2);
        Checks.due("the highest int", x.stone(1, 7, Integer.MAX_VALUE), -2);
        Checks.dueAll("two were laid", Checks.stonesOf(x, 1), 5, 1, 6, 9);
    }

    private static void stoneReturns() {
        Checks.says("Promise 3", "Returns its repeats before (0 if it was not there); NO_SUCH if there is no such walker; "
            + "BAD_VALUE if another argument is out of range; TOO_MANY if it is a new one, and the walker has 40.");
        LeapStones x = new LeapStones();
        Checks.due("not there", x.stone(2, 50, 9), 0);
        Checks.due("repeats before", x.stone(2, 50, 1), 9);
        Checks.due("of another walker", x.stone(1, 50, 5), 0);
        x.flood(2, 50, 50);
        Checks.due("not there any more", x.stone(2, 50, 5), 0);
        Checks.due("walker -1", x.stone(-1, 50, 5), -1);
        Checks.due("walker 3", x.stone(3, 50, 5), -1);
        Checks.due("NONE is no walker here", x.stone(LeapStones.NONE, 50, 5), -1);
        Checks.due("key", x.stone(0, 300, 5), -2);
        Checks.due("repeats", x.stone(0, 50, 10), -2);
        for (int key = 51; key < 90; key++) {
            Checks.due("up to the 40th", x.stone(2, key, 5), 0);
        }
        Checks.due("a 41st", x.stone(2, 90, 5), -4);
        Checks.due("the first one of 40", x.stone(2, 50, 6), 5);
        Checks.due("the last one of 40", x.stone(2, 89, 6), 5);
        Checks.due("another walker has room", x.stone(0, 90, 5), 0);
        x.flood(2, 60, 60);
        Checks.due("39: a new one", x.stone(2, 90, 5), 0);
        Checks.due("40 again", x.stone(2, 60, 5), -4);
    }
}
