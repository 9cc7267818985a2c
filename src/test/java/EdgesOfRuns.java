/** The sentences of 'A run' up to the look round, and of promises 6 and 8. */
final class EdgesOfRuns {
    private static final int ALL = LeapStones.NONE;

    private EdgesOfRuns() {
    }

    static void run() {
        noRunAtFirst();
        firstStoneFromLow();
        goalIsLow();
        turnOfTheFirst();
        overWithoutStone();
        overAboveHigh();
        lookedAtAhead();
        lookRound();
        meet();
        rows();
        keyAndOne();
        greatest();
        begin();
        runToTheEnd();
    }

    /** A river in which one walker has a stone of its own, and the two others have the same. */
    private static LeapStones oneUnlike(int walker, int its, int others) {
        LeapStones x = new LeapStones();
        for (int i = 0; i < 3; i++) {
            x.stone(i, i == walker ? its : others, 1);
        }
        return x;
    }

    private static void noRunAtFirst() {
        Checks.says("A run", "There is no run at first.");
        LeapStones x = Checks.river("0:5;1:5;2:5");
        Checks.dueAll("ofRun", Checks.run(x), -6, -6, -6, -6, -6, -6, -6, -6);
        Checks.due("leap", x.leap(), -5);
        Checks.due("run", x.run(), -5);
        Checks.due("meeting", x.meeting(0, 0), -1);
        Checks.due("set makes none", x.set(LeapStones.HIGH, 0), 299);
        Checks.due("a flood makes none", x.flood(ALL, 0, 5), 3);
        Checks.due("nor dry", x.dry(), 3);
        Checks.dueAll("still none", Checks.run(x), -6, -6, -6, -6, -6, -6, -6, -6);
        x.begin();
        Checks.due("then there is one", x.ofRun(3), 0);
    }

    private static void firstStoneFromLow() {
        Checks.says("A run", "At its beginning each walker goes to its first stone whose key is at least LOW,");
        LeapStones x = Checks.river("0:9,10,11;1:8,9,11;2:0,12,299");
        int[][] places = {{0, 0, 0}, {0, 0, 1}, {0, 1, 1}, {1, 2, 1}, {2, 2, 1}};
        int[] lows = {0, 1, 9, 10, 11};
        for (int i = 0; i < lows.length; i++) {
            x.set(LeapStones.LOW, lows[i]);
            x.begin();
            for (int walker = 0; walker < 3; walker++) {
                Checks.due("place of " + walker + " with LOW " + lows[i], x.ofWalker(walker, 1), places[i][walker]);
            }
        }
        Checks.due("key of 0", x.ofWalker(0, 2), 11);
        Checks.due("key of 1", x.ofWalker(1, 2), 11);
        Checks.due("key of 2", x.ofWalker(2, 2), 12);
    }

    private static void goalIsLow() {
        Checks.says("A run", "the goal is LOW,");
        for (int low : new int[] {0, 1, 150, 298, 299}) {
            LeapStones x = new LeapStones();
            x.set(LeapStones.LOW, low);
            x.begin();
            Checks.due("goal, over at the beginning, with LOW " + low, x.ofRun(1), low);
            LeapStones y = oneUnlike(0, low, low);
            y.set(LeapStones.LOW, low);
            y.begin();
            Checks.due("LOW is a goal that can be met on", y.meeting(0, 0), low);
        }
    }

    private static void turnOfTheFirst() {
        Checks.says("A run", "and the turn is that of the first one in the order of turns.");
        int[] firsts = {0, 0, 1, 1, 2, 2};
        LeapStones x = Checks.river("0:1,2;1:1,2;2:1,2");
        for (int order = 0; order < 6; order++) {
            x.set(LeapStones.ORDER, order);
            x.begin();
            Checks.due("turn with ORDER " + order, x.ofRun(2), firsts[order]);
            x.leap();
            x.begin();
            Checks.due("turn behind another run", x.ofRun(2), firsts[order]);
        }
    }

    private static void overWithoutStone() {
        Checks.says("A run", "A run is over as soon as a walker has no such stone,");
        for (int walker = 0; walker < 3; walker++) {
            LeapStones x = oneUnlike(walker, 10, 20);
            x.set(LeapStones.LOW, 10);
            Checks.due(walker + " has one at LOW", x.begin(), 0);
            x.set(LeapStones.LOW, 11);
            Checks.due(walker + " has none from LOW", x.begin(), 1);
            Checks.due("it is behind its last one", x.ofWalker(walker, 2), -6);
            Checks.due("others stand", x.ofWalker((walker + 1) % 3, 2), 20);
            LeapStones y = oneUnlike(walker, 10, 20);
            y.flood(walker, 0, 299);
            Checks.due(walker + " has none at all", y.begin(), 1);
        }
        Checks.due("no stones", new LeapStones().begin(), 1);
    }

    private static void overAboveHigh() {
        Checks.says("A run", "or stands on a stone whose key is above HIGH");
        for (int walker = 0; walker < 3; walker++) {
            LeapStones x = oneUnlike(walker, 20, 10);
            x.set(LeapStones.HIGH, 20);
            Checks.due(walker + " stands on HIGH", x.begin(), 0);
            x.set(LeapStones.HIGH, 19);
            Checks.due(walker + " stands above HIGH", x.begin(), 1);
            Checks.due("it stands there", x.ofWalker(walker, 2), 20);
        }
        LeapStones x = Checks.river("0:1,30;1:2;2:3");
        x.set(LeapStones.HIGH, 30);
        x.begin();
        x.leap();
        Checks.due("leapt onto HIGH", x.ofRun(0), 0);
        x.set(LeapStones.HIGH, 29);
        x.begin();
        x.leap();
        Checks.due("leapt above HIGH", x.ofRun(0), 1);
    }

    private static void lookedAtAhead() {
        Checks.says("A run", "(this is looked at ahead of what follows).");
        LeapStones x = Checks.river("0:20;1:20;2:20");
        x.set(LeapStones.HIGH, 19);
        x.begin();
        Checks.dueAll("all above HIGH do not meet", Checks.run(x), 1, 0, 0, 0, 0, 0, 0, 0);
        x.set(LeapStones.HIGH, 20);
        x.begin();
        Checks.dueAll("all on HIGH meet", Checks.run(x), 0, 21, 0, 1, 1, 0, 0, 0);

        LeapStones y = Checks.river("0:1,30;1:2;2:3");
        y.set(LeapStones.HIGH, 29);
        y.begin();
        y.leap();
        Checks.due("a leap above HIGH makes no goal", y.ofRun(1), 3);

        LeapStones z = Checks.river("0:1,30;1:1,30;2:1,30;g");
        z.set(LeapStones.HIGH, 29);
        z.flood(ALL, 1, 1);
        Checks.dueAll("slipped above HIGH: no meeting", Checks.run(z), 1, 2, 0, 1, 1, 0, 0, 3);
        z.undo();
        z.set(LeapStones.HIGH, 30);
        z.flood(ALL, 1, 1);
        Checks.dueAll("slipped onto HIGH: a meeting", Checks.run(z), 0, 31, 0, 2, 2, 0, 0, 3);

        LeapStones w = Checks.river("0:5;1:5;2:7");
        w.set(LeapStones.LOW, 6);
        w.begin();
        Checks.due("the one with a stone makes no goal", w.ofRun(1), 6);
    }

    private static void lookRound() {
        Checks.says("A run", "To look round (behind the beginning, behind each leap, and behind each flood):");
        LeapStones x = Checks.river("0:4,5,9;1:5,9;2:5,8,9");
        x.begin();
        Checks.due("behind the beginning: a goal", x.ofRun(1), 5);
        x.leap();
        Checks.due("behind a leap: a meeting", x.ofRun(3), 1);
        Checks.due("behind a leap: its goal", x.ofRun(1), 6);
        x.flood(2, 5, 5);
        Checks.due("behind a flood: a goal", x.ofRun(1), 8);
        x.flood(ALL, 5, 8);
        Checks.due("behind a flood: a meeting", x.meeting(1, 0), 9);
        LeapStones y = Checks.river("0:5;1:5;2:5;g");
        Checks.due("behind the beginning: a meeting", y.meeting(0, 0), 5);
        LeapStones z = Checks.river("0:1,7;1:2;2:3;g;l");
        Checks.due("behind a leap: a goal", z.ofRun(1), 7);
    }

    private static void meet() {
        Checks.says("A run", "if all three stand on the same key, and it is at least the goal, they meet there:");
        for (int walker = 0; walker < 3; walker++) {
            LeapStones x = oneUnlike(walker, 6, 5);
            x.begin();
            Checks.due("two on the same key, " + walker + " above it", x.ofRun(3), 0);
            x = oneUnlike(walker, 4, 5);
            x.begin();
            Checks.due("two on the same key, " + walker + " below it", x.ofRun(3), 0);
            x = oneUnlike(walker, 5, 5);
            x.begin();
            Checks.due("three on the same key", x.ofRun(3), 1);
        }
        LeapStones x = Checks.river("0:5,9;1:5,9;2:5,9");
        x.set(LeapStones.LOW, 5);
        x.begin();
        Checks.due("the key is the goal", x.meeting(0, 0), 5);
        x.flood(ALL, 200, 299);
        Checks.due("the key is below the goal then", x.ofRun(3), 1);
        x.flood(0, 9, 9);
        Checks.due("so it stays", x.ofRun(3), 1);
        x.dry();
        x.flood(ALL, 5, 5);
        Checks.due("a key above the goal", x.meeting(1, 0), 9);
    }

    private static void rows() {
        Checks.says("A run", "this gives as many rows as their repeats, multiplied,");
        int[][] repeats = {{1, 1, 1}, {9, 9, 9}, {2, 3, 5}, {9, 1, 1}, {1, 9, 1}, {1, 1, 9}};
        int[] due = {1, 729, 30, 9, 9, 9};
        for (int i = 0; i < repeats.length; i++) {
            LeapStones x = new LeapStones();
            for (int walker = 0; walker < 3; walker++) {
                x.stone(walker, 7, repeats[i][walker]);
            }
            x.begin();
            Checks.due("rows", x.meeting(0, 1), due[i]);
            Checks.due("rows together", x.ofRun(4), due[i]);
        }
        LeapStones x = Checks.river("0:7;1:7*2;2:7*3");
        x.stone(0, 7, 4);
        x.begin();
        Checks.due("the repeats at the meeting", x.meeting(0, 1), 24);
        x.stone(0, 7, 9);
        Checks.due("not later ones", x.meeting(0, 1), 24);
    }

    private static void keyAndOne() {
        Checks.says("A run", "and the goal becomes the key and 1;");
        for (int key : new int[] {0, 1, 150, 298, 299}) {
            LeapStones x = oneUnlike(0, key, key);
            x.begin();
            Checks.due("goal behind a meeting on " + key, x.ofRun(1), key + 1);
            Checks.due("the run goes on", x.ofRun(0), 0);
        }
    }

    private static void greatest() {
        Checks.says("A run", "otherwise the goal becomes the greatest of the three keys, if that is greater than it.");
        for (int walker = 0; walker < 3; walker++) {
            LeapStones x = oneUnlike(walker, 31, 30);
            x.begin();
            Checks.due(walker + " has the greatest", x.ofRun(1), 31);
            x = oneUnlike(walker, 29, 30);
            x.begin();
            Checks.due(walker + " has the least", x.ofRun(1), 30);
        }
        LeapStones x = Checks.river("0:5,6,9;1:5,7,9;2:5,7,9;g");
        x.flood(0, 9, 9);
        Checks.due("5 is not greater than 6", x.ofRun(1), 6);
        x.leap();
        Checks.due("6 is not greater than 6", x.ofRun(1), 6);
        x.leap();
        Checks.due("7 is greater than 6", x.ofRun(1), 7);
        LeapStones y = Checks.river("0:3;1:3;2:4");
        y.set(LeapStones.LOW, 2);
        y.begin();
        Checks.due("4 is greater than LOW", y.ofRun(1), 4);
        y.set(LeapStones.LOW, 3);
        y.begin();
        Checks.due("4 is greater than 3", y.ofRun(1), 4);
    }

    private static void begin() {
        Checks.says("Promise 6", "Begins a run, in place of one that there is. This is a change.");
        LeapStones x = Checks.river("0:1,5;1:2,5;2:3,5");
        x.begin();
        Checks.due("a change", x.count(7), 2);
        x.leap();
        x.leap();
        int[] before = Checks.everything(x);
        Checks.due("in place of one that goes on", x.begin(), 0);
        Checks.dueAll("as new", Checks.run(x), 0, 3, 0, 0, 0, 0, 0, 0);
        Checks.dueAll("a walker, too", Checks.walker(x, 0), 2, 0, 1, 0, 0, 0, 0);
        Checks.due("a change more", x.count(7), 5);
        x.undo();
        Checks.dueAll("undone", Checks.everything(x), before);
        x.run();
        Checks.due("in place of one that is over", x.begin(), 0);
        Checks.dueAll("as new again", Checks.run(x), 0, 3, 0, 0, 0, 0, 0, 0);
        Checks.due("no meeting of the one before", x.meeting(0, 0), -1);

        Checks.says("Promise 6", "Returns 1 if it is over already, otherwise 0.");
        Checks.due("no stones", new LeapStones().begin(), 1);
        x.set(LeapStones.HIGH, 3);
        Checks.due("none above HIGH", x.begin(), 0);
        x.set(LeapStones.HIGH, 2);
        Checks.due("one above HIGH", x.begin(), 1);
        x.set(LeapStones.HIGH, 299);
        x.set(LeapStones.LOW, 5);
        Checks.due("all have stones", x.begin(), 0);
        x.set(LeapStones.LOW, 6);
        Checks.due("none has a stone", x.begin(), 1);
    }

    private static void runToTheEnd() {
        Checks.says("Promise 8", "Makes leaps until the run is over. This is a change.");
        LeapStones x = Checks.river("0:1-3;1:1-3;2:1-3;g");
        LeapStones twin = Checks.river("0:1-3;1:1-3;2:1-3;g");
        x.run();
        for (int i = 0; i < 7; i++) {
            Checks.due("not over ahead of leap " + i, twin.ofRun(0), 0);
            twin.leap();
        }
        Checks.dueAll("the same as leaps one by one", Checks.everything(x), Checks.everything(twin));
        Checks.due("it is over", x.ofRun(0), 1);
        Checks.due("one change", x.count(7), 2);
        x.undo();
        Checks.dueAll("undone as one", Checks.run(x), 0, 2, 0, 1, 1, 0, 0, 0);

        Checks.says("Promise 8", "Returns how many leaps; NOT_POSSIBLE if there is no run, or it is over.");
        Checks.due("no run", new LeapStones().run(), -5);
        Checks.due("seven leaps", x.run(), 7);
        Checks.due("it is over", x.run(), -5);
        Checks.due("no change more", x.count(7), 2);
        LeapStones y = Checks.river("0:1;1:1;2:1;g");
        Checks.due("one leap, off", y.run(), 1);
        LeapStones z = Checks.river("0:1-3;1:1-3;2:1-3;g;l;l");
        Checks.due("only the leaps that were left", z.run(), 5);
        LeapStones w = Checks.river("0:0-39", "1:0-39", "2:0-39", "g");
        Checks.due("39 leaps each, and one off", w.run(), 118);
    }
}
