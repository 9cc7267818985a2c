/** Promises 14 to 17: walking, runWith, cheapest, lostBy. */
final class WhatIfTest {
    public static void main(String[] args) {
        promise14();
        promise15();
        promise16();
        promise17();
        Checks.close("WhatIfTest");
    }

    private static int[] walking(LeapStones x) {
        int[] all = new int[5];
        for (int i = 0; i < 5; i++) {
            all[i] = x.walking(i);
        }
        return all;
    }

    private static void promise14() {
        LeapStones x = new LeapStones();
        Checks.due("what -1", x.walking(-1), -2);
        Checks.due("what 5", x.walking(5), -2);
        Checks.dueAll("no stones", walking(x), 0, 0, -6, -6, -6);
        x = Checks.with("0:1*2,5,9*3,20,40;1:1*2,6,9*3,20,40;2:1*2,5,9*2,20,41");
        Checks.dueAll("three keys", walking(x), 3, 8 + 18 + 1, 1, 20, 11);
        x.set(LeapStones.LOW, 1);
        x.set(LeapStones.HIGH, 20);
        Checks.dueAll("with LOW and HIGH", walking(x), 3, 27, 1, 20, 11);
        x.set(LeapStones.LOW, 2);
        Checks.dueAll("without the first", walking(x), 2, 19, 9, 20, 11);
        x.set(LeapStones.HIGH, 19);
        Checks.dueAll("one key", walking(x), 1, 18, 9, 9, -6);
        x.set(LeapStones.LOW, 20);
        Checks.dueAll("LOW above HIGH", walking(x), 0, 0, -6, -6, -6);
        x.set(LeapStones.LOW, 0);
        x.set(LeapStones.HIGH, 9);
        Checks.dueAll("two keys", walking(x), 2, 26, 1, 9, 8);
        x.flood(2, 1, 1);
        Checks.dueAll("by the stones that there are", walking(x), 1, 18, 9, 9, -6);
        LeapStones y = Checks.with("0:0,100,110;1:0,100,110;2:0,100,110");
        Checks.due("the widest is not the last", y.walking(4), 100);
    }

    private static void promise15() {
        LeapStones x = new LeapStones();
        Checks.due("search -1", x.runWith(-1, 0, 0), -2);
        Checks.due("search 3", x.runWith(3, 0, 0), -2);
        Checks.due("order -1", x.runWith(0, -1, 0), -2);
        Checks.due("order 6", x.runWith(0, 6, 0), -2);
        Checks.due("what -1", x.runWith(0, 0, -1), -2);
        Checks.due("what 2", x.runWith(0, 0, 2), -2);
        Checks.due("over at once", x.runWith(2, 5, 0), 0);
        x = Checks.with("0:1-9,20,30;1:2,5,8,20,31;2:3-12,20", "g;l");
        int[] before = Checks.run(x);
        for (int search = 0; search < 3; search++) {
            for (int order = 0; order < 6; order++) {
                LeapStones y = Checks.with("0:1-9,20,30;1:2,5,8,20,31;2:3-12,20");
                y.set(LeapStones.SEARCH, search);
                y.set(LeapStones.ORDER, order);
                y.begin();
                Checks.due("leaps", x.runWith(search, order, 0), y.run());
                Checks.due("looks", x.runWith(search, order, 1), y.ofRun(6));
            }
        }
        Checks.dueAll("the run that there is stays", Checks.run(x), before);
        Checks.due("SEARCH stays", x.count(4), 1);
        Checks.due("ORDER stays", x.count(5), 0);
        Checks.due("no change", x.count(7), 2);
        x.set(LeapStones.HIGH, 3);
        Checks.due("with HIGH as it is", x.runWith(0, 0, 0), 2);
        x.set(LeapStones.HIGH, 299);
        x.set(LeapStones.LOW, 21);
        Checks.due("with LOW as it is", x.runWith(0, 0, 0), 0);
    }

    private static void promise16() {
        LeapStones x = new LeapStones();
        Checks.due("what -1", x.cheapest(-1), -2);
        Checks.due("what 3", x.cheapest(3), -2);
        Checks.due("all cost nothing: the lowest SEARCH", x.cheapest(0), 0);
        Checks.due("all cost nothing: the lowest ORDER", x.cheapest(1), 0);
        Checks.due("all cost nothing", x.cheapest(2), 0);
        String[] rivers = {"0:1-9,20,30;1:2,5,8,20,31;2:3-12,20", "0:0-39;1:39;2:39", "0:0-30;1:1,20;2:25,27",
            "0:5;1:1-5;2:2-9", "2:1,9;1:2,20;0:3-19", "2:1,9;0:2-7,20;1:3-8",
            "0:7,9;1:1-7,30;2:1-7,40", "0:1;1:2,9;2:3-30"};
        for (String river : rivers) {
            x = Checks.with(river);
            int[] best = {0, 0, Integer.MAX_VALUE};
            for (int search = 0; search < 3; search++) {
                for (int order = 0; order < 6; order++) {
                    if (x.runWith(search, order, 1) < best[2]) {
                        best = new int[] {search, order, x.runWith(search, order, 1)};
                    }
                }
            }
            Checks.dueAll("cheapest", new int[] {x.cheapest(0), x.cheapest(1), x.cheapest(2)}, best);
        }
        x = Checks.with("0:0-39;1:39;2:39");
        // 20, 30, 35, 37, 38, 39: halving beats doubling; then 0 leaps off without a look
        Checks.due("SEARCH 2", x.cheapest(0), 2);
        Checks.due("six looks", x.cheapest(2), 6);
        Checks.due("SEARCH stays", x.count(4), 1);
    }

    private static void promise17() {
        LeapStones x = Checks.with("0:1*2,5,9*3,20,40;1:1*2,6,9*3,20,40;2:1*2,5,9*2,20,41");
        Checks.due("from -1", x.lostBy(-1, 5), -2);
        Checks.due("from 300", x.lostBy(300, 300), -2);
        Checks.due("to 300", x.lostBy(0, 300), -2);
        Checks.due("to below from", x.lostBy(6, 5), -2);
        Checks.due("all", x.lostBy(0, 299), 27);
        Checks.due("one key", x.lostBy(9, 9), 18);
        Checks.due("the edges", x.lostBy(1, 9), 26);
        Checks.due("between", x.lostBy(2, 8), 0);
        x.set(LeapStones.LOW, 2);
        Checks.due("below LOW no rows are lost", x.lostBy(0, 9), 18);
        x.set(LeapStones.HIGH, 8);
        Checks.due("above HIGH neither", x.lostBy(0, 299), 0);
        Checks.due("the stones are there", x.count(0), 15);
        Checks.due("no flood came", x.count(1), 0);
    }
}
