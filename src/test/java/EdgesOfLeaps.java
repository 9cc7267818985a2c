/** The sentences of 'A run' about a leap, and of promise 7. */
final class EdgesOfLeaps {
    private static final int[][] ORDERS = {{0, 1, 2}, {0, 2, 1}, {1, 0, 2}, {1, 2, 0}, {2, 0, 1}, {2, 1, 0}};
    private static final int[] ORDER_OF_FIRST = {0, 2, 4};

    private EdgesOfLeaps() {
    }

    static void run() {
        shortOfTheGoal();
        whoLeaps();
        thereAlwaysIsOne();
        firstStoneFromGoal();
        leapsOff();
        turnBehindALeap();
        leap();
    }

    private static void shortOfTheGoal() {
        Checks.says("A run", "A leap: of the walkers whose stones are short of the goal (have a lesser key),");
        for (int walker = 0; walker < 3; walker++) {
            // the one whose turn it is stands on the goal or one key below it, the two others below it
            LeapStones onGoal = standing(walker, 6, 5);
            Checks.due("whose turn it is", onGoal.ofRun(2), walker);
            Checks.due("the goal", onGoal.ofRun(1), 6);
            Checks.isTrue("one on the goal does not leap", onGoal.leap() != walker);
            LeapStones belowGoal = standing(walker, 5, 6);
            Checks.due("the goal", belowGoal.ofRun(1), 6);
            Checks.due("one below it does", belowGoal.leap(), walker);
        }
        LeapStones x = Checks.river("0:0,299;1:1,299;2:2,299;g;l;l;l");
        Checks.due("all on 299, the goal is 300", x.ofRun(1), 300);
        Checks.due("all are short of it", x.leap(), 0);
    }

    /** A run at its beginning, with the turn of one walker, its key, and that of the two others; all have stone 9. */
    private static LeapStones standing(int walker, int its, int others) {
        LeapStones x = new LeapStones();
        for (int i = 0; i < 3; i++) {
            x.stone(i, i == walker ? its : others, 1);
            x.stone(i, 9, 1);
        }
        x.set(LeapStones.ORDER, ORDER_OF_FIRST[walker]);
        x.begin();
        return x;
    }

    /** With each turn, each ORDER, and each of the sets of walkers that are short of the goal. */
    private static void whoLeaps() {
        Checks.says("A run", "the one leaps who comes first in the order of turns, "
            + "beginning with the one whose turn it is, and going round.");
        for (int turn = 0; turn < 3; turn++) {
            for (int order = 0; order < 6; order++) {
                for (int isShort = 1; isShort < 7; isShort++) {
                    LeapStones x = new LeapStones();
                    for (int i = 0; i < 3; i++) {
                        x.stone(i, (isShort >> i & 1) == 1 ? 5 : 6, 1);
                        x.stone(i, 9, 1);
                    }
                    x.set(LeapStones.ORDER, ORDER_OF_FIRST[turn]);
                    x.begin();
                    x.set(LeapStones.ORDER, order);
                    Checks.due("turn " + turn + ", ORDER " + order + ", short " + isShort, x.leap(),
                        firstShort(ORDERS[order], turn, isShort));
                }
            }
        }
    }

    private static int firstShort(int[] order, int turn, int isShort) {
        int place = order[0] == turn ? 0 : order[1] == turn ? 1 : 2;
        while ((isShort >> order[place % 3] & 1) == 0) {
            place++;
        }
        return order[place % 3];
    }

    private static void thereAlwaysIsOne() {
        Checks.says("A run", "(There always is one while the run is not over.)");
        String[] rivers = {"0:0-9;1:0-9;2:0-9;g", "0:1,5,9;1:2,6,9;2:3,7,9;g", "0:0,20,299;1:0,299;2:298,299;g",
            "0:7;1:0-12;2:3,7;g"};
        for (String river : rivers) {
            LeapStones x = Checks.river(river);
            for (int i = 0; i < 40 && x.ofRun(0) == 0; i++) {
                int walker = x.leap();
                Checks.isTrue("a walker leaps: " + walker, walker >= 0 && walker <= 2);
            }
            Checks.due("it is over", x.ofRun(0), 1);
            Checks.due("then there is none", x.leap(), -5);
        }
        LeapStones x = Checks.river("0:5,6,9;1:5,9;2:5,9;g");
        Checks.due("behind a meeting", x.leap(), 0);
        x.flood(LeapStones.NONE, 5, 6);
        Checks.due("behind a flood", x.leap(), 1);
    }

    private static void firstStoneFromGoal() {
        Checks.says("A run", "It leaps to its first stone whose key is at least the goal;");
        LeapStones x = Checks.river("0:5,9,10,11;1:10;2:10;g;l");
        Checks.due("not the one below the goal, nor one behind the first", x.ofWalker(0, 2), 10);
        x = Checks.river("0:5,9,11,12;1:10;2:10;g;l");
        Checks.due("the first one above the goal", x.ofWalker(0, 2), 11);
        x = Checks.river("0:5,10;1:10;2:10;g;l");
        Checks.due("the next one", x.ofWalker(0, 1), 1);
        x = Checks.river("0:0-38,299;1:299;2:298,299;g;l");
        Checks.due("the last one", x.ofWalker(0, 1), 39);
        x = Checks.river("0:5;1:10;2:10;g;0:7,10,13;l");
        Checks.due("also one that was laid in the run", x.ofWalker(0, 2), 10);
        x = Checks.river("0:5,10,12;1:10;2:10;g;f0:10-10;l");
        Checks.due("not one that a flood took", x.ofWalker(0, 2), 12);
        x = Checks.river("0:5,12;1:10;2:10;g;f0:12-12;d;l");
        Checks.due("but one that came back", x.ofWalker(0, 2), 12);
    }

    private static void leapsOff() {
        Checks.says("A run", "if there is none, it leaps off (to the place behind its last stone), and the run is over.");
        LeapStones x = Checks.river("0:5,9;1:10;2:10;g");
        Checks.due("it leaps", x.leap(), 0);
        Checks.due("its last stone is below the goal: over", x.ofRun(0), 1);
        Checks.due("to the place behind it", x.ofWalker(0, 1), 2);
        Checks.due("there is no key", x.ofWalker(0, 2), -6);
        Checks.due("that is a leap", x.ofWalker(0, 3), 1);
        x = Checks.river("0:5,10;1:10;2:10;g;l");
        Checks.due("its last stone is the goal: not over", x.ofRun(0), 0);
        Checks.due("it stands on it", x.ofWalker(0, 2), 10);
        x = Checks.river("0:5;1:10;2:10;g;l");
        Checks.due("its only stone is below the goal: over", x.ofRun(0), 1);
        x = Checks.river("0:299;1:299;2:299;g;l");
        Checks.due("there is no key 300", x.ofRun(0), 1);
        Checks.due("leapt off", x.ofWalker(0, 2), -6);
        x = Checks.river("0:5,9;1:10;2:10;g;l;0:20,30");
        Checks.due("it is over, whatever is laid then", x.ofRun(0), 1);
        Checks.due("it stays behind the last stone", x.ofWalker(0, 1), 4);
    }

    private static void turnBehindALeap() {
        Checks.says("A run",
            "The turn is that of the next one in the order of turns, behind the one who leapt (going round).");
        for (int order = 0; order < 6; order++) {
            int[] walkers = ORDERS[order];
            for (int i = 0; i < 3; i++) {
                LeapStones x = new LeapStones();
                LeapStones off = new LeapStones();
                for (int walker = 0; walker < 3; walker++) {
                    x.stone(walker, walker == walkers[i] ? 5 : 6, 1);
                    x.stone(walker, 6, 1);
                    off.stone(walker, walker == walkers[i] ? 5 : 6, 1);
                }
                x.set(LeapStones.ORDER, order);
                off.set(LeapStones.ORDER, order);
                x.begin();
                off.begin();
                Checks.due("it alone is short of the goal", x.leap(), walkers[i]);
                Checks.due("turn with ORDER " + order, x.ofRun(2), walkers[(i + 1) % 3]);
                Checks.due("it leaps off", off.leap(), walkers[i]);
                Checks.due("turn behind a leap off", off.ofRun(2), walkers[(i + 1) % 3]);
            }
        }
        LeapStones x = Checks.river("0:5,9;1:5,9;2:6,9;g");
        x.set(LeapStones.ORDER, 1);
        x.leap();
        Checks.due("in the order of now", x.ofRun(2), 2);
        LeapStones y = Checks.river("0:5,9;1:6;2:6;g");
        y.set(LeapStones.HIGH, 8);
        y.leap();
        Checks.due("behind a leap above HIGH", y.ofRun(2), 1);
    }

    private static void leap() {
        Checks.says("Promise 7", "Makes the next leap. This is a change.");
        LeapStones x = Checks.river("0:1,5;1:2,5;2:3,5;g");
        x.leap();
        Checks.due("one leap", x.ofRun(5), 1);
        Checks.due("one change", x.count(7), 2);
        Checks.due("undone", x.undo(), 1);
        Checks.dueAll("at the beginning", Checks.run(x), 0, 3, 0, 0, 0, 0, 0, 0);
        Checks.due("back on its stone", x.ofWalker(0, 2), 1);

        Checks.says("Promise 7", "Returns the walker who leaps; NOT_POSSIBLE if there is no run, or it is over.");
        Checks.due("no run", new LeapStones().leap(), -5);
        Checks.due("0", x.leap(), 0);
        Checks.due("1", x.leap(), 1);
        Checks.due("2", x.leap(), 2);
        Checks.due("0 leaps off", x.leap(), 0);
        Checks.due("over", x.leap(), -5);
        LeapStones y = Checks.river("0:1,5;1:2,5;2:3,5;g");
        y.set(LeapStones.HIGH, 3);
        Checks.due("to a stone above HIGH", y.leap(), 0);
        Checks.due("over then", y.leap(), -5);
        y.begin();
        y.set(LeapStones.HIGH, 2);
        Checks.due("over by a new HIGH", y.leap(), -5);
        LeapStones z = Checks.river("0:1,5;1:2,5;2:3,5;g;f1:0-9");
        Checks.due("over by a slip", z.leap(), -5);
    }
}
