/** The sentences of promises 14 to 17. */
final class EdgesOfWhatIf {
    private static final int ALL = LeapStones.NONE;

    private EdgesOfWhatIf() {
    }

    static void run() {
        walkingKeys();
        walkingWhat();
        walkingWidest();
        walkingReturns();
        runWith();
        runWithArguments();
        runWithReturns();
        cheapest();
        cheapestOfSeveral();
        cheapestReturns();
        lostBy();
        lostByReturns();
    }

    private static int[] walking(LeapStones x) {
        int[] all = new int[5];
        for (int what = 0; what < 5; what++) {
            all[what] = x.walking(what);
        }
        return all;
    }

    private static LeapStones between(LeapStones x, int low, int high) {
        x.set(LeapStones.LOW, low);
        x.set(LeapStones.HIGH, high);
        return x;
    }

    private static void walkingKeys() {
        Checks.says("Promise 14", "Returns what plain walking would meet, by the stones that there are: "
            + "the keys from LOW to HIGH of which all three have a stone.");
        LeapStones x = Checks.river("0:10,20,30;1:10,20,30;2:10,20,30");
        Checks.due("all", x.walking(0), 3);
        Checks.due("from LOW", between(x, 10, 299).walking(0), 3);
        Checks.due("not below LOW", between(x, 11, 299).walking(0), 2);
        Checks.due("to HIGH", between(x, 0, 30).walking(0), 3);
        Checks.due("not above HIGH", between(x, 0, 29).walking(0), 2);
        Checks.due("LOW is HIGH", between(x, 20, 20).walking(0), 1);
        Checks.due("LOW is HIGH, beside a key", between(x, 21, 21).walking(0), 0);
        Checks.due("LOW is above HIGH", between(x, 21, 20).walking(0), 0);
        between(x, 0, 299);
        for (int walker = 0; walker < 3; walker++) {
            x.flood(walker, 20, 20);
            Checks.due("two alone have 20", x.walking(0), 2);
            x.dry();
            Checks.due("all three again", x.walking(0), 3);
        }
        x.begin();
        Checks.due("not by the run, which met once", x.walking(0), 3);
        x.run();
        Checks.due("nor by its end", x.walking(0), 3);
        x.stone(0, 40, 1);
        x.stone(1, 40, 1);
        x.stone(2, 40, 1);
        Checks.due("but by the stones", x.walking(0), 4);
        LeapStones y = Checks.river("0:0,299;1:0,299;2:0,299");
        Checks.due("the first and the last key", y.walking(0), 2);
        Checks.due("no change", y.count(7), 1);
    }

    private static void walkingWhat() {
        Checks.says("Promise 14", "- `what`: 0 how many such keys, 1 their rows together, 2 the first one, "
            + "3 the last one (2, 3: NONE),");
        Checks.dueAll("no stones", walking(new LeapStones()), 0, 0, -6, -6, -6);
        Checks.dueAll("one key of one each", walking(Checks.river("0:5*2;1:5*3;2:5*4")), 1, 24, 5, 5, -6);
        Checks.dueAll("the first one of all", walking(Checks.river("0:5,6;1:5,7;2:5,8")), 1, 1, 5, 5, -6);
        Checks.dueAll("the last one of all", walking(Checks.river("0:5,9;1:6,9;2:7,9")), 1, 1, 9, 9, -6);
        LeapStones x = Checks.river("0:0*2,5,9*3,299;1:0*2,6,9*3,299;2:0*2,5,9*2,299*9");
        Checks.dueAll("three keys", walking(x), 3, 8 + 18 + 9, 0, 299, 290);
        Checks.dueAll("two keys", walking(between(x, 1, 299)), 2, 27, 9, 299, 290);
        Checks.dueAll("one key", walking(between(x, 1, 298)), 1, 18, 9, 9, -6);
        Checks.dueAll("none between", walking(between(x, 1, 8)), 0, 0, -6, -6, -6);
        LeapStones y = Checks.river("0:0-39*9", "1:0-39*9", "2:0-39*9");
        Checks.dueAll("the most", walking(y), 40, 40 * 729, 0, 39, 1);
    }

    private static void walkingWidest() {
        Checks.says("Promise 14", "4 the widest river: the greatest difference of two such keys that follow one another "
            + "(NONE if there are fewer than two)");
        Checks.due("none", new LeapStones().walking(4), -6);
        Checks.due("one", Checks.river("0:5;1:5;2:5").walking(4), -6);
        Checks.due("two", Checks.river("0:5,6;1:5,6;2:5,6").walking(4), 1);
        Checks.due("the farthest", Checks.river("0:0,299;1:0,299;2:0,299").walking(4), 299);
        Checks.due("the first is the widest", Checks.river("0:0,50,60;1:0,50,60;2:0,50,60").walking(4), 50);
        Checks.due("the last is the widest", Checks.river("0:0,10,60;1:0,10,60;2:0,10,60").walking(4), 50);
        Checks.due("one between", Checks.river("0:0,9,60,69;1:0,9,60,69;2:0,9,60,69").walking(4), 51);
        Checks.due("others do not count", Checks.river("0:0,20,50;1:0,20,50;2:0,21,50").walking(4), 50);
        LeapStones x = between(Checks.river("0:0,10,60;1:0,10,60;2:0,10,60"), 0, 59);
        Checks.due("from LOW to HIGH alone", x.walking(4), 10);
    }

    private static void walkingReturns() {
        Checks.says("Promise 14", "Returns the number; BAD_VALUE if what is out of range.");
        for (LeapStones x : new LeapStones[] {new LeapStones(), Checks.river("0:5;1:5;2:5")}) {
            Checks.due("what -1", x.walking(-1), -2);
            Checks.due("what 5", x.walking(5), -2);
            Checks.due("the lowest int", x.walking(Integer.MIN_VALUE), -2);
            Checks.due("the highest int", x.walking(Integer.MAX_VALUE), -2);
        }
    }

    private static void runWith() {
        Checks.says("Promise 15", "Tells what a new run to its end would take.");
        LeapStones x = Checks.river("0:1-9,20,30;1:2,5,8,20,31;2:3-12,20");
        // all stand on 8; 0 leaps to 9, 1 and 2 to 20, 0 to 20, and 1 to 31, which is above HIGH
        between(x, 8, 30);
        Checks.due("from LOW to HIGH", x.runWith(1, 0, 0), 5);
        Checks.due("there is no run then", x.ofRun(0), -6);
        x.begin();
        x.leap();
        int[] before = Checks.everything(x);
        int changes = x.count(7);
        Checks.due("a new run, not that one", x.runWith(1, 0, 0), 5);
        Checks.dueAll("that one is as it was", Checks.everything(x), before);
        Checks.due("no change", x.count(7), changes);
        Checks.due("to its end", x.run(), 4);
        Checks.due("also when that one is over", x.runWith(1, 0, 0), 5);
        Checks.due("over already: none", between(x, 32, 299).runWith(1, 0, 0), 0);
        Checks.due("LOW above HIGH: none", between(x, 5, 4).runWith(1, 0, 1), 0);
        Checks.due("no stones: none", new LeapStones().runWith(0, 0, 1), 0);
        LeapStones y = Checks.river("0:5;1:5;2:5");
        Checks.due("at least the leap off", y.runWith(0, 0, 0), 1);
        Checks.due("which costs nothing", y.runWith(0, 0, 1), 0);
    }

    private static void runWithArguments() {
        String river = "0:0-9,20,30;1:2,5,8,20,31;2:3-12,20";
        Checks.says("Promise 15", "- `search`: in place of SEARCH");
        int[] looks = {10, 6, 4};
        for (int setting = 0; setting < 3; setting++) {
            LeapStones x = Checks.river("0:0-10;1:10;2:10");
            x.set(LeapStones.SEARCH, setting);
            for (int search = 0; search < 3; search++) {
                // one leap of 0 to 10: one by one; 1, 2, 4, 8, 9, 10; 5, 8, 9, 10
                Checks.due("looks with search " + search, x.runWith(search, 0, 1), looks[search]);
            }
            Checks.due("the setting stays", x.count(4), setting);
        }

        Checks.says("Promise 15", "- `order`: in place of ORDER");
        for (int order = 0; order < 6; order++) {
            LeapStones x = Checks.river(river);
            LeapStones twin = Checks.river(river);
            x.set(LeapStones.ORDER, 5 - order);
            twin.set(LeapStones.ORDER, order);
            twin.begin();
            Checks.due("leaps with order " + order, x.runWith(1, order, 0), twin.run());
            Checks.due("looks with order " + order, x.runWith(1, order, 1), twin.ofRun(6));
            Checks.due("the setting stays", x.count(5), 5 - order);
        }
        LeapStones y = Checks.river("0:1;1:2,5;2:3");
        int[] leaps = {1, 1, 2, 2, 1, 2};
        for (int order = 0; order < 6; order++) {
            // 2 is on the goal; 0 leaps off, or 1 leaps to 5 ahead of that
            Checks.due("leaps with order " + order, y.runWith(0, order, 0), leaps[order]);
        }

        Checks.says("Promise 15", "- `what`: 0 leaps, 1 looks");
        LeapStones z = Checks.river("0:0-3;1:3;2:3");
        Checks.due("leaps: to 3, and off", z.runWith(0, 0, 0), 2);
        Checks.due("looks: three, and none", z.runWith(0, 0, 1), 3);
    }

    private static void runWithReturns() {
        Checks.says("Promise 15", "Returns how many; BAD_VALUE if an argument is out of range.");
        LeapStones x = Checks.river("0:5;1:5;2:5");
        Checks.due("search -1", x.runWith(-1, 0, 0), -2);
        Checks.due("search 0", x.runWith(0, 0, 0), 1);
        Checks.due("search 2", x.runWith(2, 0, 0), 1);
        Checks.due("search 3", x.runWith(3, 0, 0), -2);
        Checks.due("order -1", x.runWith(0, -1, 0), -2);
        Checks.due("order 5", x.runWith(0, 5, 0), 1);
        Checks.due("order 6", x.runWith(0, 6, 0), -2);
        Checks.due("what -1", x.runWith(0, 0, -1), -2);
        Checks.due("what 1", x.runWith(0, 0, 1), 0);
        Checks.due("what 2", x.runWith(0, 0, 2), -2);
        Checks.due("the highest int", x.runWith(Integer.MAX_VALUE, 0, 0), -2);
        Checks.due("the lowest int", x.runWith(0, Integer.MIN_VALUE, 0), -2);
    }

    private static void dueCheapest(LeapStones x, int search, int order, int looks) {
        Checks.due("SEARCH", x.cheapest(0), search);
        Checks.due("ORDER", x.cheapest(1), order);
        Checks.due("looks", x.cheapest(2), looks);
    }

    private static void cheapest() {
        Checks.says("Promise 16", "Finds the SEARCH and the ORDER with which a new run to its end "
            + "would take the fewest looks;");
        // one leap of 0, and one off: to 1 it costs 1 with SEARCH 0 and 1, and 3 with 2
        dueCheapest(Checks.river("0:0-8;1:1;2:1"), 0, 0, 1);
        // to 39 it costs 39, 9 and 6
        dueCheapest(Checks.river("0:0-39;1:39;2:39"), 2, 0, 6);
        String[] rivers = {"0:1-9,20,30;1:2,5,8,20,31;2:3-12,20", "0:0-39;1:39;2:39", "2:1,9;0:2-7,20;1:3-8",
            "0:7,9;1:1-7,30;2:1-7,40", "0:0-9;1:0-30;2:5,17,29", "0:3-30;1:1-20,30;2:1,30"};
        for (String river : rivers) {
            LeapStones x = Checks.river(river);
            int[] best = {0, 0, Integer.MAX_VALUE};
            for (int i = 0; i < 18; i++) {
                int looks = x.runWith(i / 6, i % 6, 1);
                if (looks < best[2]) {
                    best = new int[] {i / 6, i % 6, looks};
                }
            }
            dueCheapest(x, best[0], best[1], best[2]);
            Checks.due("SEARCH stays", x.count(4), 1);
            Checks.due("ORDER stays", x.count(5), 0);
            Checks.due("no run", x.ofRun(0), -6);
            Checks.due("no change", x.count(7), 1);
        }
    }

    private static void cheapestOfSeveral() {
        Checks.says("Promise 16", "of several the lowest SEARCH, of these the lowest ORDER.");
        dueCheapest(new LeapStones(), 0, 0, 0);
        // with each SEARCH 0 looks by the ORDERs 2, 3 and 5
        dueCheapest(Checks.river("0:1,4;1:3;2:13"), 0, 2, 0);
        // SEARCH 1 by ORDER 3; 2 by the ORDERs 2, 3 and 5
        dueCheapest(Checks.river("0:0,5,6,7,10;1:1,10;2:6,11"), 1, 3, 5);
        // SEARCH 0 by ORDER 2; 1 and 2 by 1, 2 and 5
        dueCheapest(Checks.river("0:5,10;1:1,4,6,7,8;2:0,9"), 0, 2, 4);
        // SEARCH 2 by the ORDERs 3, 4 and 5
        dueCheapest(Checks.river("0:1,8;1:8;2:0,2,3,7"), 2, 3, 2);
        // one alone
        dueCheapest(Checks.river("0:2,5,9;1:2-5,7,14;2:2,5,8,9"), 0, 5, 9);
        dueCheapest(Checks.river("0:0,1,4,7,8;1:1,9;2:0,2,8,9"), 1, 5, 5);
        dueCheapest(Checks.river("0:6,11;1:11;2:1,7,10,14"), 2, 5, 2);
    }

    private static void cheapestReturns() {
        Checks.says("Promise 16", "- `what`: 0 the SEARCH, 1 the ORDER, 2 the looks");
        LeapStones y = Checks.river("0:1,8;1:8;2:0,2,3,7");
        Checks.due("the SEARCH", y.cheapest(0), 2);
        Checks.due("the ORDER", y.cheapest(1), 3);
        Checks.due("the looks", y.cheapest(2), 2);
        Checks.due("the same looks", y.runWith(2, 3, 1), 2);

        Checks.says("Promise 16", "Returns the number; BAD_VALUE if what is out of range.");
        LeapStones x = new LeapStones();
        Checks.due("what -1", x.cheapest(-1), -2);
        Checks.due("what 0", x.cheapest(0), 0);
        Checks.due("what 2", x.cheapest(2), 0);
        Checks.due("what 3", x.cheapest(3), -2);
        Checks.due("the lowest int", x.cheapest(Integer.MIN_VALUE), -2);
        Checks.due("the highest int", x.cheapest(Integer.MAX_VALUE), -2);
    }

    private static void lostBy() {
        Checks.says("Promise 17",
            "Tells how many rows plain walking would lose if a flood took the stones of all three in a range.");
        LeapStones x = Checks.river("0:10*2,20,30*3,40;1:10*2,20*5,30*3,41;2:10*2,20,30*2,40");
        Checks.due("all", x.lostBy(0, 299), 8 + 5 + 18);
        Checks.due("both ends are in it", x.lostBy(10, 30), 31);
        Checks.due("from behind the first key", x.lostBy(11, 30), 23);
        Checks.due("to ahead of the last key", x.lostBy(10, 29), 13);
        Checks.due("one key", x.lostBy(20, 20), 5);
        Checks.due("beside the keys", x.lostBy(21, 29), 0);
        Checks.due("what not all three have", x.lostBy(40, 41), 0);
        Checks.due("not below LOW", between(x, 11, 299).lostBy(0, 299), 23);
        Checks.due("from LOW", between(x, 10, 299).lostBy(0, 299), 31);
        Checks.due("not above HIGH", between(x, 0, 29).lostBy(0, 299), 13);
        Checks.due("to HIGH", between(x, 0, 30).lostBy(0, 299), 31);
        Checks.due("LOW above HIGH", between(x, 30, 10).lostBy(0, 299), 0);
        between(x, 0, 299);
        int changes = x.count(7);
        int before = x.walking(1);
        int lost = x.lostBy(15, 30);
        Checks.due("no flood came", x.count(1), 0);
        Checks.due("no change", x.count(7), changes);
        Checks.due("the stones are there", x.count(0), 12);
        x.flood(ALL, 15, 30);
        Checks.due("as much as it would", before - x.walking(1), lost);
        Checks.due("nothing is left to lose there", x.lostBy(15, 30), 0);
        LeapStones y = Checks.river("0:0*9,299*9;1:0*9,299*9;2:0*9,299*9");
        Checks.due("the first key", y.lostBy(0, 0), 729);
        Checks.due("the last key", y.lostBy(299, 299), 729);
        Checks.due("no stones", new LeapStones().lostBy(0, 299), 0);
    }

    private static void lostByReturns() {
        Checks.says("Promise 17", "Returns how many; BAD_VALUE as for flood().");
        LeapStones x = new LeapStones();
        Checks.due("from -1", x.lostBy(-1, 5), -2);
        Checks.due("from 0", x.lostBy(0, 5), 0);
        Checks.due("from 299", x.lostBy(299, 299), 0);
        Checks.due("from 300", x.lostBy(300, 300), -2);
        Checks.due("to below from", x.lostBy(6, 5), -2);
        Checks.due("to as from", x.lostBy(6, 6), 0);
        Checks.due("to 299", x.lostBy(6, 299), 0);
        Checks.due("to 300", x.lostBy(6, 300), -2);
        Checks.due("the highest int", x.lostBy(0, Integer.MAX_VALUE), -2);
        Checks.due("the lowest int", x.lostBy(Integer.MIN_VALUE, 0), -2);
    }
}
