/** The sentences of 'What it is': one river, on which everything that they name happens, one behind the other. */
final class EdgesOfStory {
    private static final int ALL = LeapStones.NONE;

    private EdgesOfStory() {
    }

    static void run() {
        LeapStones x = new LeapStones();
        stones(x);
        leaps(x);
        costs(x);
        meetings(x);
        floods(x);
        whatIf(x);
        saves(x);
    }

    private static void stones(LeapStones x) {
        Checks.says("What it is", "Three walkers who leap for each other across a river on stones,");
        Checks.due("stones read from a text", Checks.carry(x, "0:2-12;1:3,6*2,9,12*3;2:4,6*3,8,9,12"), 3);
        Checks.due("of walker 0", x.ofWalker(0, 0), 11);
        Checks.due("of walker 1", x.ofWalker(1, 0), 4);
        Checks.due("of walker 2", x.ofWalker(2, 0), 5);
        Checks.says("What it is", "where they look for places that all three can reach:");
        Checks.due("6, 9 and 12", x.walking(0), 3);
        Checks.says("What it is", "stones with keys and repeats,");
        Checks.dueAll("of walker 1", Checks.stonesOf(x, 1), 3, 1, 6, 2, 9, 1, 12, 3);
    }

    private static void leaps(LeapStones x) {
        Checks.says("What it is", "leaps to the first stone that is not short of the goal,");
        Checks.due("begin", x.begin(), 0);
        Checks.due("the goal: the greatest of 2, 3 and 4", x.ofRun(1), 4);
        Checks.due("walker 0 leaps", x.leap(), 0);
        Checks.due("to 4", x.ofWalker(0, 2), 4);
        Checks.due("walker 1 leaps", x.leap(), 1);
        Checks.due("to 6", x.ofWalker(1, 2), 6);
        Checks.due("the goal", x.ofRun(1), 6);
    }

    private static void costs(LeapStones x) {
        Checks.says("What it is", "three ways to look for that stone and what they cost,");
        Checks.due("walker 0 looked at 3 and 4", x.ofWalker(0, 4), 2);
        Checks.due("walker 1 looked at 6", x.ofWalker(1, 4), 1);
        int[] looks = {1, 1, 2};
        for (int search = 0; search < 3; search++) {
            x.set(LeapStones.SEARCH, search);
            Checks.due("walker 2 leaps to 6", x.leap(), 2);
            Checks.due("its looks with SEARCH " + search, x.ofWalker(2, 4), looks[search]);
            x.undo();
            x.undo();
        }
        Checks.says("What it is", "orders of turns, bounds,");
        x.set(LeapStones.ORDER, 3);
        Checks.due("behind walker 1 comes 2", x.leap(), 2);
        x.undo();
        x.set(LeapStones.ORDER, 2);
        Checks.due("now it is still the turn of 2", x.leap(), 2);
        Checks.due("and then that of 1", x.ofRun(2), 1);
        x.undo();
        x.undo();
        x.undo();
        x.set(LeapStones.HIGH, 5);
        Checks.due("walker 1 is out of bounds", x.ofRun(0), 1);
        x.undo();
        Checks.due("and in them again", x.ofRun(0), 0);
    }

    private static void meetings(LeapStones x) {
        Checks.says("What it is", "meetings and the rows that they give,");
        Checks.due("walker 2 to 6", x.leap(), 2);
        Checks.due("walker 0 to 6", x.leap(), 0);
        Checks.due("one meeting", x.ofRun(3), 1);
        Checks.due("on 6", x.meeting(0, 0), 6);
        Checks.due("1 * 2 * 3 rows", x.meeting(0, 1), 6);
        Checks.due("walker 1 to 9", x.leap(), 1);
        Checks.due("walker 2 to 9", x.leap(), 2);
        Checks.due("walker 0 to 9", x.leap(), 0);
        Checks.due("two meetings", x.ofRun(3), 2);
        Checks.due("6 and 1 rows", x.ofRun(4), 7);
        Checks.due("looks: 2 + 1 + 1 + 2, then 1 + 2 + 4", x.ofRun(6), 13);
    }

    private static void floods(LeapStones x) {
        Checks.says("What it is",
            "floods that take stones away under the walkers' feet and rivers that fall dry again,");
        Checks.due("a flood of 9", x.flood(ALL, 9, 9), 3);
        Checks.due("three slips", x.ofRun(7), 3);
        Checks.due("walker 0 to 10", x.ofWalker(0, 2), 10);
        Checks.due("walker 1 to 12", x.ofWalker(1, 2), 12);
        Checks.due("walker 2 to 12", x.ofWalker(2, 2), 12);
        Checks.due("the goal", x.ofRun(1), 12);
        Checks.due("two keys are left", x.walking(0), 2);
        Checks.due("dry", x.dry(), 3);
        Checks.due("walker 0 stays on 10", x.ofWalker(0, 2), 10);
        Checks.due("walker 0 leaps", x.leap(), 0);
        Checks.due("they meet on 12", x.meeting(2, 0), 12);
        Checks.due("1 * 3 * 1 rows", x.meeting(2, 1), 3);
        Checks.due("walker 1 leaps off", x.run(), 1);
        Checks.due("over", x.ofRun(0), 1);
    }

    private static void whatIf(LeapStones x) {
        Checks.says("What it is", "what plain walking would meet,");
        Checks.due("as many keys as the run met", x.walking(0), x.ofRun(3));
        Checks.due("as many rows as it gave", x.walking(1), x.ofRun(4));
        Checks.says("What it is", "the cheapest way to leap,");
        int fewest = x.cheapest(2);
        for (int search = 0; search < 3; search++) {
            for (int order = 0; order < 6; order++) {
                Checks.isTrue("no cheaper way", x.runWith(search, order, 1) >= fewest);
            }
        }
        Checks.due("this way", x.runWith(x.cheapest(0), x.cheapest(1), 1), fewest);
    }

    private static void saves(LeapStones x) {
        Checks.says("What it is", "stones that are read from texts,");
        Checks.due("a text", Checks.carry(x, "2:3"), 1);
        Checks.due("walker 2 has 3 now", x.ofStone(2, 0, 0), 3);
        Checks.due("so there is a key more", x.walking(0), 4);
        Checks.says("What it is", "undo, and saved states.");
        Checks.due("save", x.save(0), 21);
        Checks.due("undo", x.undo(), 5);
        Checks.due("without 3", x.walking(0), 3);
        Checks.due("restore", x.restore(0), 21);
        Checks.due("with 3", x.walking(0), 4);
    }
}
