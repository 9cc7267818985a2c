/** Promises 9 to 13: ofWalker, ofStone, ofRun, meeting, count. */
final class ReadingTest {
    public static void main(String[] args) {
        promise9();
        promise10();
        promise11();
        promise12();
        promise13();
        nothingChanges();
        Checks.close("ReadingTest");
    }

    private static void promise9() {
        LeapStones x = Checks.with("0:1,4,9;1:2,9;2:3,9");
        Checks.due("walker -1", x.ofWalker(-1, 9), -1);
        Checks.due("walker 3", x.ofWalker(3, 0), -1);
        Checks.due("what -1", x.ofWalker(0, -1), -2);
        Checks.due("what 7", x.ofWalker(0, 7), -2);
        Checks.dueAll("no run", Checks.walker(x, 0), 3, -6, -6, -6, -6, -6, -6);
        x.begin();
        x.leap();
        x.flood(1, 2, 2);
        Checks.dueAll("0", Checks.walker(x, 0), 3, 1, 4, 1, 1, 0, 3);
        Checks.dueAll("1", Checks.walker(x, 1), 1, 0, 9, 0, 0, 1, 0);
        Checks.dueAll("2", Checks.walker(x, 2), 2, 0, 3, 0, 0, 0, 0);
        x.begin();
        Checks.dueAll("3 to 6 in this run", Checks.walker(x, 1), 1, 0, 9, 0, 0, 0, 0);
        LeapStones y = Checks.with("0:0,10,30,35;1:9,29,35;2:9,30,40;g;l;l;l;l");
        Checks.due("the farthest, not the latest", y.ofWalker(0, 6), 20);
        Checks.due("what about farthest of 1", y.ofWalker(1, 6), 20);
        Checks.due("the worst what", y.ofWalker(0, Integer.MAX_VALUE), -2);
    }

    private static void promise10() {
        LeapStones x = Checks.with("0:9*3,4*2;2:7");
        Checks.due("walker -1", x.ofStone(-1, 0, 0), -1);
        Checks.due("walker 3", x.ofStone(3, 0, 5), -1);
        Checks.due("stone -1", x.ofStone(0, -1, 0), -1);
        Checks.due("stone 2", x.ofStone(0, 2, 2), -1);
        Checks.due("walker 1 has none", x.ofStone(1, 0, 0), -1);
        Checks.due("what -1", x.ofStone(0, 0, -1), -2);
        Checks.due("what 2", x.ofStone(0, 0, 2), -2);
        Checks.dueAll("0", Checks.stonesOf(x, 0), 4, 2, 9, 3);
        Checks.dueAll("2", Checks.stonesOf(x, 2), 7, 1);
    }

    private static void promise11() {
        LeapStones x = Checks.with("0:1,2*3;1:1,2*3;2:1,2*3");
        Checks.due("what -1", x.ofRun(-1), -2);
        Checks.due("what 8", x.ofRun(8), -2);
        Checks.dueAll("no run", Checks.run(x), -6, -6, -6, -6, -6, -6, -6, -6);
        x.begin();
        Checks.dueAll("begun", Checks.run(x), 0, 2, 0, 1, 1, 0, 0, 0);
        x.leap();
        Checks.dueAll("one leap", Checks.run(x), 0, 2, 1, 1, 1, 1, 1, 0);
        x.flood(1, 1, 1);
        Checks.dueAll("one slip", Checks.run(x), 0, 2, 1, 1, 1, 1, 1, 1);
        x.leap();
        Checks.dueAll("rows of both", Checks.run(x), 0, 3, 0, 2, 28, 2, 2, 1);
        x.leap();
        Checks.dueAll("over", Checks.run(x), 1, 3, 1, 2, 28, 3, 2, 1);
    }

    private static void promise12() {
        LeapStones x = Checks.with("0:1*2,5*9;1:1*3,5*9;2:1,5*9");
        Checks.due("no run", x.meeting(0, 0), -1);
        x.begin();
        Checks.due("meeting -1", x.meeting(-1, 0), -1);
        Checks.due("none such ahead of what", x.meeting(1, 2), -1);
        Checks.due("what -1", x.meeting(0, -1), -2);
        Checks.due("what 2", x.meeting(0, 2), -2);
        Checks.due("its key", x.meeting(0, 0), 1);
        Checks.due("its rows", x.meeting(0, 1), 6);
        x.stone(0, 1, 9);
        x.run();
        Checks.due("the rows that it gave then", x.meeting(0, 1), 6);
        Checks.due("the second key", x.meeting(1, 0), 5);
        Checks.due("the second rows", x.meeting(1, 1), 729);
        Checks.due("no third", x.meeting(2, 0), -1);
        x.flood(0, 0, 299);
        x.begin();
        Checks.due("a new run has none", x.meeting(0, 0), -1);
    }

    private static void promise13() {
        LeapStones x = Checks.with("0:1-3*2;1:1-2;2:9");
        Checks.due("what -1", x.count(-1), -2);
        Checks.due("what 8", x.count(8), -2);
        Checks.due("all stones", x.count(0), 6);
        x.flood(0, 1, 1);
        Checks.due("stones then", x.count(0), 5);
        Checks.due("floods", x.count(1), 1);
        x.set(LeapStones.LOW, 11);
        x.set(LeapStones.HIGH, 12);
        x.set(LeapStones.SEARCH, 2);
        x.set(LeapStones.ORDER, 4);
        Checks.due("LOW", x.count(2), 11);
        Checks.due("HIGH", x.count(3), 12);
        Checks.due("SEARCH", x.count(4), 2);
        Checks.due("ORDER", x.count(5), 4);
        Checks.putText(x, "abc");
        Checks.due("the pad", x.count(6), 3);
        Checks.due("changes", x.count(7), 6);
    }

    private static void nothingChanges() {
        LeapStones x = Checks.with("0:1-3*2;1:1-2;2:2;g");
        int before = x.count(7);
        int[] run = Checks.run(x);
        for (int what = -1; what < 9; what++) {
            x.ofWalker(0, what);
            x.ofStone(0, 0, what);
            x.ofRun(what);
            x.meeting(0, what);
            x.count(what);
            x.walking(what);
            x.runWith(what, 0, 1);
            x.cheapest(what);
            x.lostBy(what, 5);
        }
        Checks.due("no change was made", x.count(7), before);
        Checks.dueAll("the run", Checks.run(x), run);
        Checks.due("the settings", x.count(4) + 10 * x.count(5), 1);
    }
}
