/** Promises 1 to 5: a new object, set, stone, flood, dry. */
final class StonesTest {
    private static final int ALL = LeapStones.NONE;

    public static void main(String[] args) {
        promise1();
        promise2();
        promise2OnARun();
        promise3();
        promise3OnARun();
        promise4();
        promise4OnARun();
        promise4OnARunThatIsOver();
        promise4KeepsFour();
        promise5();
        promise5TooMany();
        Checks.close("StonesTest");
    }

    private static void promise1() {
        LeapStones x = new LeapStones();
        int[] counts = new int[8];
        for (int i = 0; i < 8; i++) {
            counts[i] = x.count(i);
        }
        Checks.dueAll("new: count", counts, 0, 0, 0, 299, 1, 0, 0, 0);
        Checks.dueAll("new: ofWalker", Checks.walker(x, 2), 0, -6, -6, -6, -6, -6, -6);
        Checks.dueAll("new: ofRun", Checks.run(x), -6, -6, -6, -6, -6, -6, -6, -6);
        Checks.due("new: undo", x.undo(), -5);
        Checks.due("new: restore(1)", x.restore(1), -5);
    }

    private static void promise2() {
        LeapStones x = new LeapStones();
        int[] highest = {299, 299, 2, 5};
        int[] first = {0, 299, 1, 0};
        for (int setting = 0; setting < 4; setting++) {
            Checks.due("set below", x.set(setting, -1), -2);
            Checks.due("set above", x.set(setting, highest[setting] + 1), -2);
            Checks.due("set to the highest", x.set(setting, highest[setting]), first[setting]);
            Checks.due("the setting", x.count(2 + setting), highest[setting]);
            Checks.due("set to the lowest", x.set(setting, 0), highest[setting]);
            Checks.due("the setting then", x.count(2 + setting), 0);
        }
        Checks.due("set(-1, 0)", x.set(-1, 0), -2);
        Checks.due("set(4, 0)", x.set(4, 0), -2);
        Checks.due("set(MIN, MIN)", x.set(Integer.MIN_VALUE, Integer.MIN_VALUE), -2);
        Checks.due("LOW above HIGH is allowed", x.set(LeapStones.LOW, 9), 0);
    }

    private static void promise2OnARun() {
        LeapStones x = Checks.with("0:1,7,20;1:3,9,20;2:5,11,20;g");
        Checks.dueAll("begun", Checks.run(x), 0, 5, 0, 0, 0, 0, 0, 0);
        x.set(LeapStones.ORDER, 3);
        Checks.due("the turn stays with a new ORDER", x.ofRun(2), 0);
        Checks.due("0 leaps still", x.leap(), 0);
        Checks.due("behind 0 comes 1 in ORDER 3", x.ofRun(2), 1);
        x.set(LeapStones.ORDER, 1);
        Checks.due("the turn stays 1", x.ofRun(2), 1);
        Checks.due("1 leaps", x.leap(), 1);
        Checks.due("behind 1 comes 0 in ORDER 1", x.ofRun(2), 0);
        x.set(LeapStones.LOW, 100);
        Checks.due("a new LOW leaves the goal", x.ofRun(1), 9);
        Checks.due("who stands where stays", x.ofWalker(0, 2), 7);
        x.set(LeapStones.HIGH, 9);
        Checks.due("a HIGH that no walker is above", x.ofRun(0), 0);
        x.set(LeapStones.HIGH, 8);
        Checks.due("over at once", x.ofRun(0), 1);
        x.set(LeapStones.HIGH, 299);
        Checks.due("and stays so", x.ofRun(0), 1);
        Checks.due("no leap", x.leap(), -5);
        Checks.due("the goal of a run that is over", x.ofRun(1), 9);
    }

    private static void promise3() {
        LeapStones x = new LeapStones();
        Checks.due("no walker -1", x.stone(-1, 300, 0), -1);
        Checks.due("no walker 3", x.stone(3, 0, 1), -1);
        Checks.due("key -1", x.stone(0, -1, 1), -2);
        Checks.due("key 300", x.stone(0, 300, 1), -2);
        Checks.due("repeats 0", x.stone(0, 5, 0), -2);
        Checks.due("repeats 10", x.stone(0, 5, 10), -2);
        Checks.due("key 299", x.stone(1, 299, 9), 0);
        Checks.due("key 0", x.stone(1, 0, 1), 0);
        Checks.due("key 7", x.stone(1, 7, 3), 0);
        Checks.due("key 7 again", x.stone(1, 7, 4), 3);
        Checks.dueAll("in the order of keys", Checks.stonesOf(x, 1), 0, 1, 7, 4, 299, 9);
        Checks.due("each its own", x.ofWalker(0, 0), 0);
        for (int key = 0; key < 40; key++) {
            Checks.due("stone " + key, x.stone(2, 2 * key, 1), 0);
        }
        Checks.due("a 41st one", x.stone(2, 1, 1), -4);
        Checks.due("bad ahead of too many", x.stone(2, 1, 0), -2);
        Checks.due("another repeats of one of 40", x.stone(2, 78, 6), 1);
        Checks.due("they are 40", x.ofWalker(2, 0), 40);
    }

    private static void promise3OnARun() {
        LeapStones x = Checks.with("0:5,9;1:5;2:6;g");
        Checks.dueAll("walker 0 on its place", Checks.walker(x, 0), 2, 0, 5, 0, 0, 0, 0);
        x.stone(0, 3, 1);
        Checks.dueAll("it stays on its stone", Checks.walker(x, 0), 3, 1, 5, 0, 0, 0, 0);
        x.run();
        Checks.due("0 is off or waits", x.ofRun(0), 1);
        LeapStones y = Checks.with("0:5;1:5,6;2:6;g;l");
        Checks.dueAll("leapt off", Checks.walker(y, 0), 1, 1, -6, 1, 0, 0, 0);
        y.stone(0, 299, 1);
        Checks.dueAll("behind a stone that comes last", Checks.walker(y, 0), 2, 2, -6, 1, 0, 0, 0);
    }

    private static void promise4() {
        LeapStones x = Checks.with("0:1-9*2;1:5-7*3;2:7");
        Checks.due("walker -1", x.flood(-1, 0, 9), -1);
        Checks.due("walker -5", x.flood(-5, -1, 9), -1);
        Checks.due("walker 3", x.flood(3, 0, 9), -1);
        Checks.due("from -1", x.flood(0, -1, 9), -2);
        Checks.due("from 300", x.flood(0, 300, 300), -2);
        Checks.due("to 300", x.flood(ALL, 0, 300), -2);
        Checks.due("to below from", x.flood(0, 4, 3), -2);
        Checks.due("nothing was kept of that", x.count(1), 0);
        Checks.due("one walker", x.flood(0, 3, 7), 5);
        Checks.dueAll("what is left", Checks.stonesOf(x, 0), 1, 2, 2, 2, 8, 2, 9, 2);
        Checks.dueAll("of another all", Checks.stonesOf(x, 1), 5, 3, 6, 3, 7, 3);
        Checks.due("all three", x.flood(ALL, 7, 8), 3);
        Checks.dueAll("0", Checks.stonesOf(x, 0), 1, 2, 2, 2, 9, 2);
        Checks.dueAll("1", Checks.stonesOf(x, 1), 5, 3, 6, 3);
        Checks.due("2", x.ofWalker(2, 0), 0);
        Checks.due("one that takes nothing", x.flood(2, 0, 299), 0);
        Checks.due("is kept, too", x.count(1), 3);
    }

    private static void promise4OnARun() {
        LeapStones x = Checks.with("0:10,15,20*2;1:10,20*3;2:10,12,20*4;g");
        Checks.dueAll("met on 10", Checks.run(x), 0, 11, 0, 1, 1, 0, 0, 0);
        Checks.due("flood under one", x.flood(2, 10, 11), 1);
        Checks.dueAll("it slips, the goal grows", Checks.run(x), 0, 12, 0, 1, 1, 0, 0, 1);
        Checks.dueAll("slips are no leaps", Checks.walker(x, 2), 2, 0, 12, 0, 0, 1, 0);
        Checks.due("a flood beside the walkers", x.flood(0, 15, 15), 1);
        Checks.dueAll("moves no one", Checks.run(x), 0, 12, 0, 1, 1, 0, 0, 1);
        Checks.due("under all three", x.flood(ALL, 10, 12), 3);
        Checks.dueAll("they slip together and meet", Checks.run(x), 0, 21, 0, 2, 25, 0, 0, 4);
        Checks.due("the second meeting", x.meeting(1, 0), 20);
        Checks.due("its rows", x.meeting(1, 1), 24);
        Checks.due("under all at the end", x.flood(ALL, 20, 20), 3);
        Checks.dueAll("all three slip off, and it is over", Checks.run(x), 1, 21, 0, 2, 25, 0, 0, 7);
        Checks.dueAll("behind the last", Checks.walker(x, 1), 0, 0, -6, 0, 0, 2, 0);

        LeapStones y = Checks.with("0:1,50;1:2;2:3;g");
        y.set(LeapStones.HIGH, 40);
        y.flood(0, 0, 1);
        Checks.dueAll("slipped above HIGH", Checks.run(y), 1, 3, 0, 0, 0, 0, 0, 1);
        Checks.due("it stands there", y.ofWalker(0, 2), 50);
    }

    private static void promise4OnARunThatIsOver() {
        LeapStones x = Checks.with("0:4,9;1:5,9;2:9");
        x.set(LeapStones.HIGH, 8);
        Checks.due("over at its beginning", x.begin(), 1);
        x.flood(ALL, 4, 5);
        Checks.dueAll("no slip, no meeting, the same goal", Checks.run(x), 1, 0, 0, 0, 0, 0, 0, 0);
        Checks.dueAll("it stands on the next", Checks.walker(x, 0), 1, 0, 9, 0, 0, 0, 0);
        x.flood(0, 9, 9);
        Checks.dueAll("and behind the last", Checks.walker(x, 0), 0, 0, -6, 0, 0, 0, 0);
        x.dry();
        Checks.dueAll("where it stays", Checks.walker(x, 0), 1, 1, -6, 0, 0, 0, 0);
    }

    private static void promise4KeepsFour() {
        LeapStones x = Checks.with("0:1-6");
        for (int key = 1; key <= 6; key++) {
            Checks.due("flood " + key, x.flood(0, key, key), 1);
            Checks.due("kept", x.count(1), Math.min(4, key));
        }
        for (int i = 0; i < 4; i++) {
            Checks.due("dry " + i, x.dry(), 1);
        }
        Checks.due("no more", x.dry(), -5);
        Checks.dueAll("the latest four came back", Checks.stonesOf(x, 0), 3, 1, 4, 1, 5, 1, 6, 1);
        LeapStones y = Checks.with("0:1;1:1-2;2:1-3");
        y.flood(ALL, 0, 299);
        for (int i = 0; i < 4; i++) {
            Checks.due("nothing is left to take", y.flood(ALL, 0, 299), 0);
        }
        for (int i = 0; i < 4; i++) {
            Checks.due("nothing of the one that was dropped", y.dry(), 0);
        }
        Checks.due("no more", y.dry(), -5);
    }

    private static void promise5() {
        LeapStones x = Checks.with("0:1*5,2*4,3;1:2*9;2:9");
        Checks.due("no flood", x.dry(), -5);
        x.flood(ALL, 2, 3);
        x.stone(0, 2, 4);
        x.stone(1, 2, 1);
        x.stone(0, 4, 2);
        Checks.due("all come back", x.dry(), 3);
        Checks.dueAll("repeats are added", Checks.stonesOf(x, 0), 1, 5, 2, 8, 3, 1, 4, 2);
        Checks.dueAll("9 at most", Checks.stonesOf(x, 1), 2, 9);
        Checks.due("it is not kept any more", x.count(1), 0);
        Checks.due("nor given back again", x.dry(), -5);

        LeapStones y = Checks.with("0:1,10;1:2,10;2:3,10;g");
        y.flood(0, 1, 1);
        Checks.due("slipped to 10", y.ofWalker(0, 1), 0);
        y.dry();
        Checks.dueAll("walkers do not move by that", Checks.walker(y, 0), 2, 1, 10, 0, 0, 1, 0);
        Checks.due("the goal stays", y.ofRun(1), 10);
    }

    private static void promise5TooMany() {
        LeapStones x = Checks.with("0:0-39;1:0-39");
        x.flood(ALL, 0, 1);
        x.stone(1, 100, 1);
        x.stone(1, 101, 1);
        x.stone(1, 1, 2);
        Checks.due("41 are not laid", x.stone(1, 102, 1), -4);
        Checks.due("41 do not come back", x.dry(), -4);
        Checks.due("nothing changes", x.ofWalker(0, 0), 38);
        Checks.due("the flood is kept", x.count(1), 1);
        Checks.due("one away", x.flood(1, 100, 101), 2);
        Checks.due("that one comes back", x.dry(), 2);
        Checks.due("undone", x.undo(), 5);
        Checks.due("kept are both", x.count(1), 2);
        Checks.due("the order of floods is kept", x.dry(), 2);
        x.flood(1, 101, 101);
        x.dry();
        Checks.due("still too many", x.dry(), -4);
    }
}
