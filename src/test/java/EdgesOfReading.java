/** The sentences of promises 9 to 13. */
final class EdgesOfReading {
    private static final int ALL = LeapStones.NONE;

    private EdgesOfReading() {
    }

    static void run() {
        ofWalkerStonesAndPlace();
        ofWalkerKey();
        ofWalkerFigures();
        ofWalkerFarthest();
        ofWalkerOfThisRun();
        ofWalkerReturns();
        ofStone();
        ofRunWhat();
        ofRunReturns();
        meeting();
        meetingReturns();
        count();
        countReturns();
    }

    private static void ofWalkerStonesAndPlace() {
        Checks.says("Promise 9", "Returns something about a walker.");
        LeapStones w = Checks.river("0:1;1:1-2;2:1-3;g");
        for (int walker = 0; walker < 3; walker++) {
            Checks.due("of " + walker, w.ofWalker(walker, 0), walker + 1);
        }
        Checks.due("no change", w.count(7), 1);

        Checks.says("Promise 9", "- `what`: 0 its stones,");
        LeapStones x = new LeapStones();
        Checks.due("none", x.ofWalker(0, 0), 0);
        for (int key = 0; key < 40; key++) {
            x.stone(0, key, 9);
            Checks.due("stones", x.ofWalker(0, 0), key + 1);
        }
        x.flood(0, 5, 9);
        Checks.due("without those of a flood", x.ofWalker(0, 0), 35);

        Checks.says("Promise 9", "1 the place among them where it stands (how many they are, if it is behind the last one),");
        LeapStones y = Checks.river("0:5,7;1:7,9;2:7,9;g");
        Checks.due("the first one", y.ofWalker(0, 1), 0);
        y.leap();
        Checks.due("the last one", y.ofWalker(0, 1), 1);
        Checks.due("three leaps more, the last one off", y.run(), 3);
        Checks.due("behind the last one of two", y.ofWalker(0, 1), 2);
        y.stone(0, 6, 1);
        Checks.due("of three", y.ofWalker(0, 1), 3);
        y.flood(0, 0, 299);
        Checks.due("of none", y.ofWalker(0, 1), 0);
        LeapStones z = Checks.river("0:260-299;1:299;2:299;g;l");
        Checks.due("the last one of 40", z.ofWalker(0, 1), 39);
        Checks.due("1 leaps off", z.leap(), 1);
        Checks.due("behind the only one", z.ofWalker(1, 1), 1);
        Checks.due("on the only one", z.ofWalker(2, 1), 0);
    }

    private static void ofWalkerKey() {
        Checks.says("Promise 9", "2 the key there (NONE if it is behind the last one),");
        LeapStones x = Checks.river("0:0,299;1:299;2:299;g");
        Checks.due("key 0", x.ofWalker(0, 2), 0);
        x.leap();
        Checks.due("key 299", x.ofWalker(0, 2), 299);
        Checks.due("1 leaps off", x.leap(), 1);
        Checks.due("behind its last one", x.ofWalker(1, 2), -6);
        Checks.due("another is not", x.ofWalker(2, 2), 299);
        LeapStones y = new LeapStones();
        y.begin();
        Checks.due("no stone", y.ofWalker(2, 2), -6);
        LeapStones z = Checks.river("0:5,9;1:5;2:5;g;f1:5-5");
        Checks.due("slipped off", z.ofWalker(1, 2), -6);
        Checks.due("not slipped", z.ofWalker(0, 2), 5);
    }

    private static void ofWalkerFigures() {
        LeapStones x = Checks.river("0:1,4,9;1:2,9;2:3,9;g");
        Checks.says("Promise 9", "3 its leaps,");
        Checks.due("none", x.ofWalker(0, 3), 0);
        x.run();
        // 0 to 4, 1 to 9, 2 to 9, 0 to 9, 1 off
        Checks.due("two", x.ofWalker(0, 3), 2);
        Checks.due("two, one of them off", x.ofWalker(1, 3), 2);
        Checks.due("one", x.ofWalker(2, 3), 1);
        Checks.says("Promise 9", "4 its looks,");
        Checks.due("two", x.ofWalker(0, 4), 2);
        Checks.due("one, as a leap off from the last stone costs none", x.ofWalker(1, 4), 1);
        Checks.due("one", x.ofWalker(2, 4), 1);
        x.begin();
        Checks.due("none", x.ofWalker(0, 4), 0);
        Checks.says("Promise 9", "5 its slips,");
        Checks.due("none", x.ofWalker(0, 5), 0);
        x.flood(0, 1, 1);
        Checks.due("one", x.ofWalker(0, 5), 1);
        x.flood(0, 4, 4);
        Checks.due("two", x.ofWalker(0, 5), 2);
        x.flood(0, 0, 8);
        Checks.due("two still", x.ofWalker(0, 5), 2);
        x.flood(ALL, 0, 299);
        Checks.due("three, one of them off", x.ofWalker(0, 5), 3);
        Checks.due("others", x.ofWalker(1, 5) + x.ofWalker(2, 5), 2);
        Checks.due("a slip is no leap", x.ofWalker(0, 3), 0);
    }

    private static void ofWalkerFarthest() {
        Checks.says("Promise 9",
            "6 how far it leapt farthest: the greatest difference of keys (leaps off do not count; 0)");
        LeapStones x = Checks.river("0:1,2,32,36,99;1:2,32,36;2:2,32,36;g");
        Checks.due("no leap: 0", x.ofWalker(0, 6), 0);
        x.leap();
        Checks.due("1 to 2", x.ofWalker(0, 6), 1);
        x.leap();
        x.leap();
        x.leap();
        Checks.due("they met on 2 and on 32", x.ofRun(3), 2);
        Checks.due("30 of 0", x.ofWalker(0, 6), 30);
        Checks.due("30 of 1", x.ofWalker(1, 6), 30);
        Checks.due("30 of 2", x.ofWalker(2, 6), 30);
        x.run();
        Checks.due("the greatest, not the latest", x.ofWalker(1, 6), 30);
        LeapStones off = Checks.river("0:0;1:9;2:9;g;l");
        Checks.due("a leap off alone", off.ofWalker(0, 6), 0);
        LeapStones slip = Checks.river("0:0,50;1:0,99;2:0,99;g;f0:0-0");
        Checks.due("a slip is no leap", slip.ofWalker(0, 6), 0);
        LeapStones far = Checks.river("0:0,299;1:299;2:299;g;l");
        Checks.due("the farthest that there is", far.ofWalker(0, 6), 299);
        LeapStones above = Checks.river("0:1,30;1:2;2:3");
        above.set(LeapStones.HIGH, 20);
        above.begin();
        above.leap();
        Checks.due("onto a stone above HIGH is no leap off", above.ofWalker(0, 6), 29);
    }

    private static void ofWalkerOfThisRun() {
        Checks.says("Promise 9", "(1 to 6: NONE if there is no run; 3 to 6 in this run)");
        LeapStones x = Checks.river("0:1,4,9;1:2,9;2:3,9");
        for (int walker = 0; walker < 3; walker++) {
            Checks.dueAll("no run", Checks.walker(x, walker), walker == 0 ? 3 : 2, -6, -6, -6, -6, -6, -6);
        }
        x.begin();
        x.leap();
        x.flood(0, 4, 4);
        Checks.dueAll("this run", Checks.walker(x, 0), 2, 1, 9, 1, 1, 1, 3);
        x.leap();
        Checks.dueAll("this run", Checks.walker(x, 1), 2, 1, 9, 1, 1, 0, 7);
        x.run();
        Checks.due("when it is over, too", x.ofWalker(0, 5), 1);
        x.begin();
        for (int walker = 0; walker < 3; walker++) {
            Checks.dueAll("a new run", Checks.walker(x, walker), 2, 0, walker + 1, 0, 0, 0, 0);
        }
    }

    private static void ofWalkerReturns() {
        Checks.says("Promise 9", "Returns the number; NO_SUCH if there is no such walker; BAD_VALUE if what is out of range.");
        LeapStones x = Checks.river("0:5;1:5;2:5;g");
        Checks.due("walker -1", x.ofWalker(-1, 0), -1);
        Checks.due("walker 0", x.ofWalker(0, 0), 1);
        Checks.due("walker 2", x.ofWalker(2, 0), 1);
        Checks.due("walker 3", x.ofWalker(3, 0), -1);
        Checks.due("NONE is no walker here", x.ofWalker(LeapStones.NONE, 0), -1);
        Checks.due("what -1", x.ofWalker(0, -1), -2);
        Checks.due("what 6", x.ofWalker(0, 6), 0);
        Checks.due("what 7", x.ofWalker(0, 7), -2);
        Checks.due("the lowest int", x.ofWalker(0, Integer.MIN_VALUE), -2);
        Checks.due("the highest int", x.ofWalker(0, Integer.MAX_VALUE), -2);
        Checks.due("without a run, too", new LeapStones().ofWalker(0, 7), -2);
    }

    private static void ofStone() {
        Checks.says("Promise 10", "Returns something about a stone of a walker, in the order of their keys.");
        LeapStones x = Checks.river("1:299*9,0*2,150*3;2:7");
        Checks.dueAll("1", Checks.stonesOf(x, 1), 0, 2, 150, 3, 299, 9);
        x.stone(1, 1, 4);
        Checks.dueAll("one more", Checks.stonesOf(x, 1), 0, 2, 1, 4, 150, 3, 299, 9);
        x.flood(1, 0, 1);
        Checks.dueAll("two less", Checks.stonesOf(x, 1), 150, 3, 299, 9);

        Checks.says("Promise 10", "- `what`: 0 its key, 1 its repeats");
        Checks.due("key", x.ofStone(1, 1, 0), 299);
        Checks.due("repeats", x.ofStone(1, 1, 1), 9);

        Checks.says("Promise 10", "Returns the number; NO_SUCH if there is no such walker or stone; "
            + "BAD_VALUE if what is neither 0 nor 1.");
        Checks.due("walker -1", x.ofStone(-1, 0, 0), -1);
        Checks.due("walker 3", x.ofStone(3, 0, 0), -1);
        Checks.due("walker 0 has none", x.ofStone(0, 0, 0), -1);
        Checks.due("stone -1", x.ofStone(1, -1, 0), -1);
        Checks.due("stone 0", x.ofStone(1, 0, 0), 150);
        Checks.due("stone 2 of two", x.ofStone(1, 2, 0), -1);
        Checks.due("stone 1 of one", x.ofStone(2, 1, 0), -1);
        Checks.due("the highest int", x.ofStone(1, Integer.MAX_VALUE, 0), -1);
        Checks.due("the lowest int", x.ofStone(1, Integer.MIN_VALUE, 0), -1);
        Checks.due("what -1", x.ofStone(1, 0, -1), -2);
        Checks.due("what 2", x.ofStone(1, 0, 2), -2);
        LeapStones full = Checks.river("0:0-39*5");
        Checks.due("stone 39 of 40", full.ofStone(0, 39, 0), 39);
        Checks.due("stone 40 of 40", full.ofStone(0, 40, 0), -1);
    }

    private static void ofRunWhat() {
        Checks.says("Promise 11", "Returns something about the run.");
        LeapStones x = Checks.river("0:1,2*3;1:1,2*3;2:1,2*3;g");
        Checks.dueAll("begun", Checks.run(x), 0, 2, 0, 1, 1, 0, 0, 0);
        Checks.due("no change", x.count(7), 1);

        Checks.says("Promise 11", "- `what`: 0 whether it is over (1 or 0), 1 the goal, 2 whose turn it is, 3 meetings, "
            + "4 rows that they gave together, 5 leaps, 6 looks, 7 slips");
        x.leap();
        Checks.dueAll("a leap", Checks.run(x), 0, 2, 1, 1, 1, 1, 1, 0);
        x.flood(1, 1, 1);
        Checks.dueAll("a slip", Checks.run(x), 0, 2, 1, 1, 1, 1, 1, 1);
        x.leap();
        Checks.dueAll("a meeting", Checks.run(x), 0, 3, 0, 2, 28, 2, 2, 1);
        x.leap();
        Checks.dueAll("over", Checks.run(x), 1, 3, 1, 2, 28, 3, 2, 1);
        LeapStones y = Checks.river("0:0-39*9", "1:0-39*9", "2:0-39*9;g");
        y.run();
        Checks.dueAll("the most of one run", Checks.run(y), 1, 40, 1, 40, 40 * 729, 118, 117, 0);

        Checks.says("Promise 11", "(all NONE if there is no run)");
        Checks.dueAll("no run", Checks.run(new LeapStones()), -6, -6, -6, -6, -6, -6, -6, -6);
    }

    private static void ofRunReturns() {
        Checks.says("Promise 11", "Returns the number; BAD_VALUE if what is out of range.");
        LeapStones x = new LeapStones();
        Checks.due("what -1", x.ofRun(-1), -2);
        Checks.due("what 8", x.ofRun(8), -2);
        Checks.due("the lowest int", x.ofRun(Integer.MIN_VALUE), -2);
        Checks.due("the highest int", x.ofRun(Integer.MAX_VALUE), -2);
        x.begin();
        Checks.due("what -1 of a run", x.ofRun(-1), -2);
        Checks.due("what 0 of a run", x.ofRun(0), 1);
        Checks.due("what 7 of a run", x.ofRun(7), 0);
        Checks.due("what 8 of a run", x.ofRun(8), -2);
    }

    private static void meeting() {
        Checks.says("Promise 12", "Returns something about a meeting of the run, in their order.");
        LeapStones x = Checks.river("0:1*2,5*9,7;1:1*3,5*9,7;2:1,5*9,7;g");
        x.run();
        int[] keys = {1, 5, 7};
        int[] rows = {6, 729, 1};
        for (int i = 0; i < 3; i++) {
            Checks.due("key of meeting " + i, x.meeting(i, 0), keys[i]);
            Checks.due("rows of meeting " + i, x.meeting(i, 1), rows[i]);
        }
        x.set(LeapStones.LOW, 2);
        x.begin();
        Checks.due("of this run", x.meeting(0, 0), 5);
        Checks.due("not of the one before", x.meeting(1, 0), -1);

        Checks.says("Promise 12", "- `what`: 0 its key, 1 the rows that it gave");
        Checks.due("key", x.meeting(0, 0), 5);
        Checks.due("rows", x.meeting(0, 1), 729);
        x.stone(1, 5, 1);
        Checks.due("the rows that it gave", x.meeting(0, 1), 729);
        x.flood(ALL, 5, 5);
        Checks.due("also without the stones", x.meeting(0, 0), 5);
        Checks.due("the next one", x.meeting(1, 0), 7);
    }

    private static void meetingReturns() {
        Checks.says("Promise 12", "Returns the number; NO_SUCH if there is no such meeting; "
            + "BAD_VALUE if what is neither 0 nor 1.");
        LeapStones x = Checks.river("0:1,5;1:1,5;2:1,5");
        Checks.due("no run", x.meeting(0, 0), -1);
        x.begin();
        Checks.due("meeting -1", x.meeting(-1, 0), -1);
        Checks.due("meeting 0", x.meeting(0, 0), 1);
        Checks.due("meeting 1 of one", x.meeting(1, 0), -1);
        Checks.due("the lowest int", x.meeting(Integer.MIN_VALUE, 0), -1);
        Checks.due("the highest int", x.meeting(Integer.MAX_VALUE, 0), -1);
        Checks.due("what -1", x.meeting(0, -1), -2);
        Checks.due("what 2", x.meeting(0, 2), -2);
        x.run();
        Checks.due("meeting 1 of two", x.meeting(1, 0), 5);
        Checks.due("meeting 2 of two", x.meeting(2, 0), -1);
        LeapStones y = Checks.river("0:0-39", "1:0-39", "2:0-39;g");
        y.run();
        Checks.due("meeting 39 of 40", y.meeting(39, 0), 39);
        Checks.due("meeting 40 of 40", y.meeting(40, 0), -1);
    }

    private static void count() {
        Checks.says("Promise 13", "Returns a number.");
        LeapStones x = new LeapStones();
        x.count(0);
        Checks.due("no change", x.count(7), 0);

        Checks.says("Promise 13", "- `what`: 0 all stones, 1 floods that are kept, 2 to 5 the settings, "
            + "6 the length of the pad, 7 how many changes can be undone");
        Checks.due("no stones", x.count(0), 0);
        for (int walker = 0; walker < 3; walker++) {
            Checks.carry(x, walker + ":0-39*9");
            Checks.due("stones, not repeats", x.count(0), 40 * walker + 40);
        }
        for (int i = 0; i < 6; i++) {
            Checks.due("floods", x.count(1), Math.min(i, 4));
            Checks.due("changes", x.count(7), Math.min(i + 3, 6));
            x.flood(ALL, i, i);
        }
        Checks.due("stones of floods are not in the river", x.count(0), 120 - 18);
        int[] values = {11, 12, 2, 4};
        for (int setting = 0; setting < 4; setting++) {
            x.set(setting, values[setting]);
        }
        for (int setting = 0; setting < 4; setting++) {
            Checks.due("setting " + setting, x.count(2 + setting), values[setting]);
        }
        Checks.due("an empty pad", x.count(6), 0);
        Checks.putText(x, "x".repeat(80));
        Checks.due("a full pad", x.count(6), 80);
        for (int left = 5; left >= 0; left--) {
            x.undo();
            Checks.due("changes left", x.count(7), left);
        }
        Checks.due("the pad is not undone", x.count(6), 80);
    }

    private static void countReturns() {
        Checks.says("Promise 13", "Returns the number; BAD_VALUE if what is out of range.");
        LeapStones x = Checks.river("0:5");
        Checks.due("what -1", x.count(-1), -2);
        Checks.due("what 0", x.count(0), 1);
        Checks.due("what 7", x.count(7), 1);
        Checks.due("what 8", x.count(8), -2);
        Checks.due("the lowest int", x.count(Integer.MIN_VALUE), -2);
        Checks.due("the highest int", x.count(Integer.MAX_VALUE), -2);
    }
}
