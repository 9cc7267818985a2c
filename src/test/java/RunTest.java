/** Promises 6 to 8: begin, leap, run, and what a leap costs. */
final class RunTest {
    public static void main(String[] args) {
        promise6();
        promise6Over();
        promise7();
        promise7TakesTurns();
        promise7Ends();
        promise7Costs();
        promise8();
        promise8EveryKey();
        Checks.close("RunTest");
    }

    private static void promise6() {
        LeapStones x = Checks.with("0:1,5,8*2;1:5,8*3;2:0,7,8*4");
        Checks.due("begin", x.begin(), 0);
        Checks.dueAll("begun", Checks.run(x), 0, 5, 0, 0, 0, 0, 0, 0);
        x.set(LeapStones.LOW, 8);
        x.set(LeapStones.ORDER, 4);
        Checks.due("the old run goes on", x.ofRun(1), 5);
        x.leap();
        Checks.due("begin in its place", x.begin(), 0);
        Checks.dueAll("met on LOW at once", Checks.run(x), 0, 9, 2, 1, 24, 0, 0, 0);
        Checks.dueAll("a fresh walker", Checks.walker(x, 0), 3, 2, 8, 0, 0, 0, 0);
        x.set(LeapStones.LOW, 6);
        x.begin();
        Checks.dueAll("the first stones from 6 are 8, 8 and 7", Checks.run(x), 0, 8, 2, 0, 0, 0, 0, 0);
    }

    private static void promise6Over() {
        LeapStones x = Checks.with("0:1,5;1:5;2:0,7");
        x.set(LeapStones.LOW, 6);
        x.set(LeapStones.ORDER, 5);
        Checks.due("two have no such stone", x.begin(), 1);
        Checks.dueAll("it is over", Checks.run(x), 1, 6, 2, 0, 0, 0, 0, 0);
        Checks.dueAll("behind the last", Checks.walker(x, 0), 2, 2, -6, 0, 0, 0, 0);
        Checks.dueAll("the third is there", Checks.walker(x, 2), 2, 1, 7, 0, 0, 0, 0);
        LeapStones y = Checks.with("0:5;1:5;2:5");
        y.set(LeapStones.HIGH, 4);
        Checks.due("above HIGH", y.begin(), 1);
        Checks.dueAll("no meeting then, no new goal", Checks.run(y), 1, 0, 0, 0, 0, 0, 0, 0);
        y.set(LeapStones.HIGH, 5);
        Checks.due("on HIGH", y.begin(), 0);
        Checks.due("they meet", y.ofRun(3), 1);
    }

    private static void promise7() {
        LeapStones x = Checks.with("0:1,4,9;1:2,9;2:3,9");
        Checks.due("no run", x.leap(), -5);
        x.begin();
        Checks.due("0 is short of 3", x.leap(), 0);
        Checks.dueAll("0 leapt", Checks.walker(x, 0), 3, 1, 4, 1, 1, 0, 3);
        Checks.dueAll("the goal grew", Checks.run(x), 0, 4, 1, 0, 0, 1, 1, 0);
        Checks.due("1", x.leap(), 1);
        Checks.due("goal 9", x.ofRun(1), 9);
        Checks.due("2", x.leap(), 2);
        Checks.due("no meeting yet", x.ofRun(3), 0);
        Checks.due("0 again", x.leap(), 0);
        Checks.dueAll("met", Checks.run(x), 0, 10, 1, 1, 1, 4, 4, 0);
        Checks.due("farthest", x.ofWalker(0, 6), 5);
        Checks.due("1 leaps off", x.leap(), 1);
        Checks.dueAll("over, the turn is the next one's", Checks.run(x), 1, 10, 2, 1, 1, 5, 4, 0);
        Checks.dueAll("off", Checks.walker(x, 1), 2, 2, -6, 2, 1, 0, 7);
        Checks.due("no more", x.leap(), -5);
    }

    private static void promise7TakesTurns() {
        int[][] orders = {{0, 1, 2}, {0, 2, 1}, {1, 0, 2}, {1, 2, 0}, {2, 0, 1}, {2, 1, 0}};
        for (int order = 0; order < 6; order++) {
            LeapStones x = Checks.with("0:5,6,9;1:5,7,9;2:5,8,9");
            x.set(LeapStones.ORDER, order);
            x.begin();
            Checks.due("the first turn", x.ofRun(2), orders[order][0]);
            for (int i = 0; i < 3; i++) {
                int walker = orders[order][i];
                if (walker + 6 >= x.ofRun(1)) {
                    Checks.due("in order " + order, x.leap(), walker);
                    Checks.due("turn", x.ofRun(2), orders[order][(i + 1) % 3]);
                } else {
                    break;
                }
            }
        }
        LeapStones y = Checks.with("0:9,20;1:1,9,20;2:1,9,20");
        y.set(LeapStones.ORDER, 1);
        y.begin();
        Checks.due("0 is not short and is passed over", y.leap(), 2);
        Checks.due("then 1", y.leap(), 1);
        Checks.due("met, the turn is 0's", y.ofRun(2), 0);
        Checks.due("0", y.leap(), 0);
    }

    private static void promise7Ends() {
        LeapStones x = Checks.with("0:1,30;1:2,5;2:3,5");
        x.set(LeapStones.HIGH, 20);
        x.begin();
        Checks.due("0 leaps above HIGH", x.leap(), 0);
        Checks.dueAll("over, and the goal stays", Checks.run(x), 1, 3, 1, 0, 0, 1, 1, 0);
        Checks.dueAll("that is a leap of 29", Checks.walker(x, 0), 2, 1, 30, 1, 1, 0, 29);
        LeapStones y = Checks.with("0:1,299;1:1,299;2:1,299;g");
        Checks.due("from meeting to meeting", y.run(), 4);
        Checks.dueAll("at the last key", Checks.run(y), 1, 300, 1, 2, 2, 4, 3, 0);
    }

    private static int looks(int search, int stones, int goal) {
        LeapStones x = Checks.with("0:0-" + (stones - 1), "1:" + goal + ";2:" + goal);
        x.set(LeapStones.SEARCH, search);
        x.begin();
        Checks.due("walker 0 leaps", x.leap(), 0);
        return x.ofWalker(0, 4);
    }

    private static void promise7Costs() {
        Checks.due("one by one to 13", looks(0, 40, 13), 13);
        Checks.due("one by one to the last", looks(0, 40, 39), 39);
        Checks.due("one by one past the last", looks(0, 40, 90), 39);
        // 1, 2, 4, 8, 16; then between 8 and 16: 12, 14, 13
        Checks.due("doubling to 13", looks(1, 40, 13), 8);
        // 1, 2, 4, 8; then between 4 and 8: 6, 7
        Checks.due("doubling to 8", looks(1, 40, 8), 6);
        Checks.due("doubling to 1", looks(1, 40, 1), 1);
        // 1, 2; nothing between them
        Checks.due("doubling to 2", looks(1, 40, 2), 2);
        // 1, 2, 4, 8, 16, 32; then between 32 and 40: 36, 38, 39
        Checks.due("doubling past the last", looks(1, 40, 90), 9);
        Checks.due("doubling to 39", looks(1, 40, 39), 9);
        // between 0 and 40: 20, 10, 15, 12, 13, (14 is not looked at)
        Checks.due("halving to 13", looks(2, 40, 13), 5);
        // 20, 30, 35, 37, 38, 39
        Checks.due("halving past the last", looks(2, 40, 90), 6);
        // 20, 10, 5, 2, 1
        Checks.due("halving to 1", looks(2, 40, 1), 5);
        for (int search = 0; search < 3; search++) {
            Checks.due("no stone to look at", looks(search, 1, 5), 0);
        }
        LeapStones x = Checks.with("0:0,3-9;1:2,8;2:2,9;g;l");
        x.leap();
        x.leap();
        // 0 stands on place 1 of 8: 2, 3, 5, and there is no 9; then 5 to 8: 6, 7
        Checks.due("from the place where it stands", x.leap(), 0);
        Checks.due("with the one look before", x.ofWalker(0, 4), 1 + 5);
    }

    private static void promise8() {
        LeapStones x = Checks.with("0:1,4,9*2;1:2,9*2;2:3,9*2");
        Checks.due("no run", x.run(), -5);
        x.begin();
        x.leap();
        Checks.due("the rest of it", x.run(), 4);
        Checks.dueAll("to its end", Checks.run(x), 1, 10, 2, 1, 8, 5, 4, 0);
        Checks.due("it is over", x.run(), -5);
        Checks.due("one change", x.undo(), 3);
        Checks.dueAll("undone as one", Checks.run(x), 0, 4, 1, 0, 0, 1, 1, 0);
        LeapStones y = Checks.with("0:0-39", "1:0-39", "2:0-39", "g");
        Checks.due("the longest way", y.run(), 118);
        Checks.due("forty meetings", y.ofRun(3), 40);
        Checks.due("the last", y.meeting(39, 0), 39);
    }

    /** The stones behind the walkers are flooded and new ones laid ahead, until they have met on every key. */
    private static void promise8EveryKey() {
        LeapStones x = new LeapStones();
        for (int from = 0; from < 300; from += 30) {
            String range = from + "-" + (from + 29);
            String flood = from == 0 ? "" : "f*:0-" + (from - 2) + ";";
            Checks.putText(x, flood + "0:" + range + ";1:" + range + ";2:" + range + (from == 0 ? ";g" : ""));
            x.carryOut();
            int leaps = from == 0 ? 87 : 90;
            for (int left = leaps; left > 0; left -= 40) {
                Checks.putText(x, "l;".repeat(Math.min(40, left) - 1) + "l");
                x.carryOut();
            }
        }
        Checks.dueAll("all keys", Checks.run(x), 0, 300, 0, 300, 300, 897, 897, 0);
        Checks.due("the last meeting", x.meeting(299, 0), 299);
        Checks.due("its rows", x.meeting(299, 1), 1);
        Checks.due("no more", x.meeting(300, 0), -1);
        Checks.due("a leap off", x.run(), 1);
        Checks.due("over", x.ofRun(0), 1);
        Checks.due("no meeting more", x.ofRun(3), 300);
    }
}
