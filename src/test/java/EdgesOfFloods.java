/** The sentences of 'Floods', and of promises 4 and 5. */
final class EdgesOfFloods {
    private static final int ALL = LeapStones.NONE;

    private EdgesOfFloods() {
    }

    static void run() {
        takesARange();
        slips();
        slipsOff();
        ofARunThatIsOver();
        fourAreKept();
        latestFirst();
        repeatsAreAdded();
        walkersStay();
        flood();
        floodReturns();
        dry();
        dryReturns();
    }

    private static void takesARange() {
        Checks.says("Floods", "A flood takes all stones of one walker, or of all three, whose keys are in a range.");
        LeapStones x = Checks.river("0:9-15;1:9-15;2:9-15");
        Checks.due("of one", x.flood(1, 11, 13), 3);
        Checks.dueAll("both ends are in it", Checks.stonesOf(x, 1), 9, 1, 10, 1, 14, 1, 15, 1);
        Checks.due("0 keeps its own", x.ofWalker(0, 0), 7);
        Checks.due("2 keeps its own", x.ofWalker(2, 0), 7);
        Checks.due("of all", x.flood(ALL, 10, 14), 5 + 2 + 5);
        for (int walker = 0; walker < 3; walker++) {
            Checks.dueAll("left to " + walker, Checks.stonesOf(x, walker), 9, 1, 15, 1);
        }
        Checks.due("one key", x.flood(0, 15, 15), 1);
        Checks.due("beside the keys", x.flood(ALL, 10, 14), 0);
        LeapStones y = Checks.river("0:0,299;1:0,299;2:0,299");
        Checks.due("the first key", y.flood(ALL, 0, 0), 3);
        Checks.due("the last key", y.flood(ALL, 299, 299), 3);
        Checks.due("none is left", y.count(0), 0);
        LeapStones z = Checks.river("0:0-39", "1:100-139", "2:200-239");
        Checks.due("all that there can be", z.flood(ALL, 0, 299), 120);
    }

    private static void slips() {
        Checks.says("Floods", "If a walker of a run that is not over loses the stone on which it stands, "
            + "it slips to its first stone with a greater key");
        for (int walker = 0; walker < 3; walker++) {
            for (int who : new int[] {walker, ALL}) {
                LeapStones x = Checks.river("0:10-20*2;1:10-20*3;2:10-20*4");
                x.set(LeapStones.LOW, 15);
                x.begin();
                x.flood(who, 16, 20);
                Checks.due("not by a flood above it", x.ofWalker(walker, 2), 15);
                x.flood(who, 10, 14);
                Checks.due("not by a flood below it", x.ofWalker(walker, 2), 15);
                Checks.due("no slip", x.ofRun(7), 0);
                x.dry();
                x.dry();
                x.flood(who, 15, 15);
                Checks.due("to the next key", x.ofWalker(walker, 2), 16);
                x.flood(who, 14, 18);
                Checks.due("to the first one that is left", x.ofWalker(walker, 2), 19);
                Checks.due("two slips", x.ofWalker(walker, 5), 2);
                Checks.due("not over", x.ofRun(0), 0);
            }
        }
        LeapStones x = Checks.river("0:10-20;1:10-20;2:10-20");
        x.set(LeapStones.LOW, 15);
        x.begin();
        x.flood(1, 15, 15);
        Checks.dueAll("others keep their places", new int[] {x.ofWalker(0, 2), x.ofWalker(2, 2)}, 15, 15);
        Checks.due("one slip", x.ofRun(7), 1);
        Checks.due("its turn stays", x.ofRun(2), 0);
        Checks.due("no leap", x.ofRun(5), 0);
        Checks.due("no looks", x.ofRun(6), 0);
        Checks.due("the goal grows", x.ofRun(1), 16);
    }

    private static void slipsOff() {
        Checks.says("Floods", "(to the place behind its last stone, if there is none; then the run is over).");
        for (int walker = 0; walker < 3; walker++) {
            LeapStones x = Checks.river("0:1,5,6;1:1,5,6;2:1,5,6");
            x.set(LeapStones.LOW, 5);
            x.begin();
            x.flood(walker, 5, 5);
            Checks.due("there is one", x.ofRun(0), 0);
            Checks.due("on it", x.ofWalker(walker, 1), 1);
            x.flood(walker, 6, 299);
            Checks.due("there is none: over", x.ofRun(0), 1);
            Checks.due("behind its last stone", x.ofWalker(walker, 1), 1);
            Checks.due("no key", x.ofWalker(walker, 2), -6);
            Checks.due("that is a slip, too", x.ofWalker(walker, 5), 2);
            Checks.due("the goal stays", x.ofRun(1), 6);
            x.dry();
            Checks.due("it stays over", x.ofRun(0), 1);
            Checks.due("it stays behind its last stone", x.ofWalker(walker, 1), 2);
        }
        LeapStones x = Checks.river("0:5;1:5,9;2:5,9;g");
        x.flood(ALL, 5, 5);
        Checks.dueAll("one slips off, two slip beside it", Checks.run(x), 1, 6, 0, 1, 1, 0, 0, 3);
        Checks.due("beside it", x.ofWalker(1, 2), 9);
        LeapStones y = Checks.river("0:5;1:5;2:5;g");
        y.flood(ALL, 0, 299);
        Checks.dueAll("all three slip off", Checks.run(y), 1, 6, 0, 1, 1, 0, 0, 3);
        Checks.due("place 0 of none", y.ofWalker(2, 1), 0);
    }

    private static void ofARunThatIsOver() {
        Checks.says("Floods", "(Of a run that is over it is told to stand there, too, but that is no slip.)");
        LeapStones x = Checks.river("0:5,9,12;1:5,9,12;2:5,9;g");
        x.set(LeapStones.HIGH, 4);
        Checks.due("over", x.ofRun(0), 1);
        x.flood(0, 6, 9);
        Checks.due("it keeps its stone", x.ofWalker(0, 2), 5);
        x.flood(0, 5, 5);
        Checks.due("told to stand on the next", x.ofWalker(0, 2), 12);
        Checks.due("no slip", x.ofWalker(0, 5), 0);
        x.flood(ALL, 5, 5);
        Checks.due("of all", x.ofWalker(1, 2), 9);
        x.flood(2, 9, 9);
        Checks.due("behind its last stone", x.ofWalker(2, 1), 0);
        Checks.due("no key there", x.ofWalker(2, 2), -6);
        Checks.due("no slips", x.ofRun(7), 0);
        Checks.due("no look round: the goal", x.ofRun(1), 6);
        Checks.due("no look round: meetings", x.ofRun(3), 1);
        Checks.due("over still", x.ofRun(0), 1);
        LeapStones y = Checks.river("0:5;1:5,6,12;2:5,6,12;g;l");
        Checks.due("over by a leap off", y.ofRun(0), 1);
        y.flood(ALL, 5, 5);
        Checks.due("the one behind its last stone stays there", y.ofWalker(0, 1), 0);
        Checks.due("another is told to stand on its next", y.ofWalker(1, 2), 6);
        y.set(LeapStones.HIGH, 4);
        y.stone(0, 7, 1);
        y.flood(ALL, 6, 6);
        Checks.due("behind its last stone still", y.ofWalker(0, 1), 1);
        Checks.due("told again", y.ofWalker(2, 2), 12);
        Checks.due("no slips of that run", y.ofRun(7), 0);
        LeapStones z = Checks.river("0:5,9;1:5,9;2:5,9;g");
        z.set(LeapStones.HIGH, 5);
        z.flood(1, 5, 5);
        Checks.due("the slip by which it is over is one", z.ofRun(7), 1);
        z.flood(0, 5, 5);
        Checks.due("the next one is none", z.ofRun(7), 1);
        Checks.due("told to stand there", z.ofWalker(0, 2), 9);
    }

    private static void fourAreKept() {
        Checks.says("Floods", "What the latest 4 floods took is kept, for the river to fall dry:");
        LeapStones x = Checks.river("0:1-5");
        for (int key = 1; key <= 4; key++) {
            x.flood(0, key, key);
        }
        Checks.due("four are kept", x.count(1), 4);
        x.flood(0, 5, 5);
        Checks.due("of five four", x.count(1), 4);
        for (int i = 0; i < 4; i++) {
            Checks.due("each gives one", x.dry(), 1);
        }
        Checks.dueAll("the first one is lost", Checks.stonesOf(x, 0), 2, 1, 3, 1, 4, 1, 5, 1);
        Checks.due("none is kept", x.dry(), -5);
        LeapStones y = Checks.river("0:1;f0:1-1");
        for (int i = 0; i < 3; i++) {
            y.flood(0, 1, 1);
        }
        Checks.due("floods that took nothing are kept, too", y.dry() + y.dry() + y.dry(), 0);
        Checks.due("the first of four is there", y.dry(), 1);
        y.flood(0, 1, 1);
        for (int i = 0; i < 4; i++) {
            y.flood(2, 0, 0);
        }
        Checks.due("and they make the first of five lost", y.dry() + y.dry() + y.dry() + y.dry(), 0);
        Checks.due("none is kept", y.dry(), -5);
    }

    private static void latestFirst() {
        Checks.says("Floods", "the latest flood gives its stones back then;");
        LeapStones x = Checks.river("0:1*2,3*4;1:1*3,2*5;2:2");
        x.flood(ALL, 1, 1);
        x.flood(ALL, 2, 2);
        x.flood(0, 3, 3);
        Checks.due("the third", x.dry(), 1);
        Checks.dueAll("with its repeats", Checks.stonesOf(x, 0), 3, 4);
        Checks.due("the second", x.dry(), 2);
        Checks.dueAll("to walker 1", Checks.stonesOf(x, 1), 2, 5);
        Checks.dueAll("to walker 2", Checks.stonesOf(x, 2), 2, 1);
        x.flood(1, 2, 2);
        Checks.due("the one that came then", x.dry(), 1);
        Checks.due("the first", x.dry(), 2);
        Checks.dueAll("0 as before", Checks.stonesOf(x, 0), 1, 2, 3, 4);
        Checks.dueAll("1 as before", Checks.stonesOf(x, 1), 1, 3, 2, 5);
    }

    private static void repeatsAreAdded() {
        Checks.says("Floods", "if there is a stone with the same key again, the repeats are added, but 9 at most.");
        int[][] sums = {{1, 1, 2}, {4, 4, 8}, {4, 5, 9}, {5, 5, 9}, {1, 8, 9}, {9, 1, 9}, {1, 9, 9}, {9, 9, 9}};
        for (int[] sum : sums) {
            LeapStones x = new LeapStones();
            x.stone(2, 50, sum[0]);
            x.flood(2, 50, 50);
            x.stone(2, 50, sum[1]);
            x.stone(1, 50, 1);
            Checks.due("it comes back", x.dry(), 1);
            Checks.due("one stone", x.ofWalker(2, 0), 1);
            Checks.due("repeats " + sum[0] + " and " + sum[1], x.ofStone(2, 0, 1), sum[2]);
            Checks.due("of another walker not", x.ofStone(1, 0, 1), 1);
        }
    }

    private static void walkersStay() {
        Checks.says("Floods", "(Walkers do not move by that, and stay on their stones.)");
        LeapStones x = Checks.river("0:5,7,9;1:5,9;2:5,9;g");
        x.flood(0, 5, 7);
        int[] before = Checks.run(x);
        x.dry();
        Checks.due("on its stone, which is another place", x.ofWalker(0, 2), 9);
        Checks.due("the place", x.ofWalker(0, 1), 2);
        Checks.dueAll("the run is the same", Checks.run(x), before);
        x.flood(1, 9, 9);
        x.dry();
        Checks.due("a stone ahead came back", x.ofWalker(1, 1), 0);
        x.stone(0, 9, 4);
        x.flood(0, 5, 7);
        x.dry();
        x.run();
        Checks.due("they meet on 9", x.meeting(1, 1), 4);
        LeapStones y = Checks.river("0:5;1:5,9;2:5,9;g;f0:5-5;d");
        Checks.due("slipped off, and it stays so", y.ofWalker(0, 1), 1);
        Checks.due("over, and it stays so", y.ofRun(0), 1);
    }

    private static void flood() {
        Checks.says("Promise 4", "A flood comes. This is a change.");
        LeapStones x = Checks.river("0:5,9;1:5,9;2:5,9;g");
        int[] before = Checks.everything(x);
        x.flood(ALL, 5, 5);
        Checks.due("a change", x.count(7), 2);
        x.undo();
        Checks.dueAll("undone", Checks.everything(x), before);
        Checks.due("it is not kept then", x.dry(), -5);
        x.flood(0, 0, 0);
        Checks.due("a change, also if it takes nothing", x.count(7), 2);

        Checks.says("Promise 4", "- `walker`: a walker, or NONE: all three");
        for (int walker = -7; walker <= 3; walker++) {
            LeapStones y = Checks.river("0:5;1:5,6;2:5,6,7");
            int due = walker == ALL ? 6 : walker < 0 || walker > 2 ? -1 : walker + 1;
            Checks.due("walker " + walker, y.flood(walker, 0, 299), due);
        }

        Checks.says("Promise 4", "- `from`: 0 to 299");
        Checks.due("-1", x.flood(0, -1, 299), -2);
        Checks.due("0", x.flood(0, 0, 299), 2);
        Checks.due("299", x.flood(0, 299, 299), 0);
        Checks.due("300", x.flood(0, 300, 300), -2);

        Checks.says("Promise 4", "- `to`: from to 299");
        Checks.due("below from", x.flood(1, 9, 8), -2);
        Checks.due("from", x.flood(1, 9, 9), 1);
        Checks.due("299", x.flood(1, 0, 299), 1);
        Checks.due("300", x.flood(1, 0, 300), -2);
        Checks.due("below from, at the first key", x.flood(1, 0, -1), -2);
        Checks.due("the highest int", x.flood(1, 0, Integer.MAX_VALUE), -2);
        Checks.due("the lowest int", x.flood(1, Integer.MIN_VALUE, 5), -2);
    }

    private static void floodReturns() {
        Checks.says("Promise 4", "Returns how many stones it takes; NO_SUCH if there is no such walker; "
            + "BAD_VALUE if another argument is out of range.");
        LeapStones x = Checks.river("0:1-9*9;1:3-5;2:8");
        Checks.due("stones, not repeats", x.flood(0, 1, 2), 2);
        Checks.due("of all three", x.flood(ALL, 4, 8), 5 + 2 + 1);
        Checks.due("none", x.flood(ALL, 10, 299), 0);
        Checks.due("no walker 3", x.flood(3, 0, 299), -1);
        Checks.due("no walker -1", x.flood(-1, 0, 299), -1);
        Checks.due("from", x.flood(ALL, 300, 300), -2);
        Checks.due("to", x.flood(ALL, 299, 298), -2);
        Checks.due("three are kept", x.count(1), 3);
    }

    private static void dry() {
        Checks.says("Promise 5", "The river falls dry: the stones of the latest flood that is kept come back, "
            + "and it is not kept any more. This is a change.");
        LeapStones x = Checks.river("0:1-3;f0:1-1;f0:2-3");
        Checks.due("two are kept", x.count(1), 2);
        x.dry();
        Checks.dueAll("of the latest", Checks.stonesOf(x, 0), 2, 1, 3, 1);
        Checks.due("one is kept", x.count(1), 1);
        Checks.due("a change", x.count(7), 2);
        x.undo();
        Checks.due("undone", x.count(0), 0);
        Checks.due("two are kept again", x.count(1), 2);
        Checks.due("that come back", x.dry(), 2);
        Checks.due("both", x.dry(), 1);
        Checks.due("none is kept", x.count(1), 0);
        x.flood(2, 0, 0);
        int changes = x.count(7);
        x.dry();
        Checks.due("a change, also if none comes back", x.count(7), changes + 1);
    }

    private static void dryReturns() {
        Checks.says("Promise 5", "Returns how many stones it gives back; NOT_POSSIBLE if no flood is kept; "
            + "TOO_MANY if a walker would have more than 40 stones.");
        Checks.due("none is kept", new LeapStones().dry(), -5);
        Checks.due("none was taken", Checks.river("f0:0-9").dry(), 0);
        LeapStones x = Checks.river("0:1-3*4;1:1-3*5;2:1-3*6;f*:2-3;0:2;1:9");
        Checks.due("stones, also those that are there again", x.dry(), 6);
        for (int walker = 0; walker < 3; walker++) {
            LeapStones full = Checks.river(walker + ":0-39;f" + walker + ":0-4;" + walker + ":100-104");
            Checks.due("40 are there", full.ofWalker(walker, 0), 40);
            Checks.due("45 would be", full.dry(), -4);
            full.flood(walker, 101, 104);
            full.dry();
            Checks.due("the first flood still", full.dry(), -4);
            full = Checks.river(walker + ":0-39;f" + walker + ":0-4;" + walker + ":100");
            Checks.due("41 would be", full.dry(), -4);
            full = Checks.river(walker + ":0-39;f" + walker + ":0-4");
            Checks.due("40 are", full.dry(), 5);
            full = Checks.river(walker + ":0-39;f" + walker + ":0-4;" + walker + ":4,100-103");
            Checks.due("44 would be, of 45 one is there", full.dry(), -4);
            full = Checks.river(walker + ":0-39;f" + walker + ":0-4;" + walker + ":0-4*8");
            Checks.due("40 are, all are there", full.dry(), 5);
            Checks.due("with their repeats", full.ofStone(walker, 4, 1), 9);
        }
        LeapStones y = Checks.river("0:0-38;2:0-39;f*:0-0;0:50;2:51");
        int[] before = Checks.everything(y);
        Checks.due("0 has room, 2 has not", y.dry(), -4);
        Checks.dueAll("nothing came back, also to 0", Checks.everything(y), before);
        Checks.due("no change", y.count(7), 1);
    }
}
