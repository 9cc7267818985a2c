/** The sentences of 'Texts' about what the orders do, and of promise 21. */
final class EdgesOfOrders {
    private static final int ALL = LeapStones.NONE;

    private EdgesOfOrders() {
    }

    static void run() {
        stones();
        flood();
        dry();
        begin();
        leap();
        upToTheFirstError();
        someStone();
        emptiesThePad();
        oneChange();
        returns();
    }

    private static void same(String what, LeapStones x, LeapStones twin) {
        Checks.dueAll(what, Checks.everything(x), Checks.everything(twin));
    }

    private static void stones() {
        Checks.says("Texts", "The first one: stone() for each key, from the first one to the second one, "
            + "with the repeats (1, if they are left out);");
        LeapStones x = Checks.river("0:3-6*7;1:5;2:8-8*9;1:0,299*2,10-11");
        Checks.dueAll("0", Checks.stonesOf(x, 0), 3, 7, 4, 7, 5, 7, 6, 7);
        Checks.dueAll("1", Checks.stonesOf(x, 1), 0, 1, 5, 1, 10, 1, 11, 1, 299, 2);
        Checks.dueAll("2", Checks.stonesOf(x, 2), 8, 9);
        x = Checks.river("0:5*3;0:5");
        Checks.dueAll("left out they are 1, not what they were", Checks.stonesOf(x, 0), 5, 1);
        x = Checks.river("0:5*3,5*4");
        Checks.dueAll("the latest ones", Checks.stonesOf(x, 0), 5, 4);
        x = Checks.river("0:5*9,6");
        Checks.dueAll("not those of the stone ahead of it", Checks.stonesOf(x, 0), 5, 9, 6, 1);
        x = Checks.river("0:260-299");
        Checks.due("forty", x.ofWalker(0, 0), 40);
    }

    private static void flood() {
        Checks.says("Texts", "\"f\": flood(), of all with \"*\";");
        String river = "0:1-9;1:1-9*2;2:1-9*3;g";
        for (int walker = 0; walker < 3; walker++) {
            LeapStones x = Checks.river(river, "f" + walker + ":1-4");
            LeapStones twin = Checks.river(river);
            twin.flood(walker, 1, 4);
            same("flood of " + walker, x, twin);
            Checks.due("it falls dry", x.dry(), 4);
        }
        LeapStones x = Checks.river(river, "f*:2-5");
        LeapStones twin = Checks.river(river);
        twin.flood(ALL, 2, 5);
        same("flood of all", x, twin);
        Checks.due("it falls dry", x.dry(), 12);
        x = Checks.river("0:0,5,299;f0:0-0;f0:299-299");
        Checks.dueAll("at both ends", Checks.stonesOf(x, 0), 5, 1);
    }

    private static void dry() {
        Checks.says("Texts", "\"d\": dry();");
        LeapStones x = Checks.river("0:1-9;f0:1-3;f0:5-6;d");
        Checks.dueAll("the latest", Checks.stonesOf(x, 0), 4, 1, 5, 1, 6, 1, 7, 1, 8, 1, 9, 1);
        Checks.due("one is kept", x.count(1), 1);
        Checks.due("none is left", Checks.carry(x, "d;d"), 1);
    }

    private static void begin() {
        Checks.says("Texts", "\"g\": begin();");
        LeapStones x = Checks.river("0:1,5;1:2,5;2:3,5;g");
        Checks.dueAll("begun", Checks.run(x), 0, 3, 0, 0, 0, 0, 0, 0);
        Checks.due("in place of one that there is", Checks.carry(x, "l;l;g"), 3);
        Checks.dueAll("begun again", Checks.run(x), 0, 3, 0, 0, 0, 0, 0, 0);
        Checks.due("over already: that is no error", Checks.carry(x, "f0:0-299;g;g"), 3);
        Checks.due("over", x.ofRun(0), 1);
    }

    private static void leap() {
        Checks.says("Texts", "\"l\": leap().");
        LeapStones x = Checks.river("0:1,5;1:2,5;2:3,5;g;l;l");
        LeapStones twin = Checks.river("0:1,5;1:2,5;2:3,5;g");
        twin.leap();
        twin.leap();
        same("two leaps", x, twin);
        Checks.due("up to the leap off", Checks.carry(x, "l;l;l;l"), 2);
        Checks.due("over", x.ofRun(0), 1);
    }

    private static void upToTheFirstError() {
        Checks.says("Promise 21", "Carries the orders of the pad out, one after the other, "
            + "up to the first one that returns an error");
        LeapStones x = Checks.river("0:5;f0:5-5;0:6;d;0:7");
        Checks.dueAll("one after the other", Checks.stonesOf(x, 0), 5, 1, 6, 1, 7, 1);
        String[] failing = {"l", "d", "f0:9-8", "f*:299-298", "2:0-40"};
        for (String order : failing) {
            LeapStones y = new LeapStones();
            Checks.due("up to " + order, Checks.carry(y, "1:5;" + order + ";1:6"), 1);
            Checks.dueAll("what is ahead of it", Checks.stonesOf(y, 1), 5, 1);
            Checks.due("first of all " + order, Checks.carry(y, order + ";1:6"), 0);
            Checks.due("nothing of 1", y.ofWalker(1, 0), 1);
            Checks.due("no flood", y.count(1), 0);
        }
        LeapStones y = new LeapStones();
        Checks.due("a leap of a run that is over", Checks.carry(y, "g;l;0:5"), 1);
        Checks.due("nothing behind it", y.count(0), 0);
        Checks.due("dry with too many", Checks.carry(y, "0:0-39;f0:0-0;0:50;d;1:5"), 3);
        Checks.due("nothing behind it", y.ofWalker(1, 0), 0);
        Checks.due("a flood of equal keys is none", Checks.carry(y, "f0:9-9;1:5"), 2);
    }

    private static void someStone() {
        Checks.says("Promise 21", "(of the first kind: some stone(); what was laid ahead of that stays; "
            + "a second key that is below the first one lays nothing, and is no error),");
        LeapStones x = new LeapStones();
        Checks.due("forty", Checks.carry(x, "0:0-39"), 1);
        Checks.due("the 41st of a range", Checks.carry(x, "1:0-40;1:0*5"), 0);
        Checks.due("what was laid ahead", x.ofWalker(1, 0), 40);
        Checks.due("up to 39", x.ofStone(1, 39, 0), 39);
        Checks.due("with repeats as they were", x.ofStone(1, 0, 1), 1);
        Checks.due("a new one behind others", Checks.carry(x, "1:3*4,99,5*4"), 0);
        Checks.due("ahead of it", x.ofStone(1, 3, 1), 4);
        Checks.due("behind it", x.ofStone(1, 5, 1), 1);
        Checks.due("a range into new ones", Checks.carry(x, "1:38-41*8"), 0);
        Checks.due("ahead of them", x.ofStone(1, 39, 1), 8);
        Checks.due("no new one is no error", Checks.carry(x, "1:0-39*2"), 1);
        LeapStones y = new LeapStones();
        Checks.due("second key below the first", Checks.carry(y, "0:5-4"), 1);
        Checks.due("lays nothing", y.count(0), 0);
        Checks.due("second key equal", Checks.carry(y, "0:5-5"), 1);
        Checks.due("lays one", y.count(0), 1);
        Checks.due("others of the order are laid", Checks.carry(y, "0:7,299-0*9,8;0:9"), 2);
        Checks.dueAll("they are", Checks.stonesOf(y, 0), 5, 1, 7, 1, 8, 1, 9, 1);
        Checks.due("also if the walker has 40", Checks.carry(x, "0:99-50;2:5"), 2);
    }

    private static void emptiesThePad() {
        Checks.says("Promise 21", "and empties the pad.");
        LeapStones x = new LeapStones();
        Checks.carry(x, "0:1;0:2");
        Checks.due("all carried out", x.count(6), 0);
        Checks.due("its fault", x.fault(), 0);
        Checks.carry(x, "0:3;d;0:4");
        Checks.due("not all carried out", x.count(6), 0);
        Checks.carry(x, "d;0:4");
        Checks.due("none carried out", x.count(6), 0);
        Checks.due("so the next text stands alone", Checks.carry(x, "0:5"), 1);
        Checks.dueAll("the stones", Checks.stonesOf(x, 0), 1, 1, 2, 1, 3, 1, 5, 1);
    }

    private static void oneChange() {
        Checks.says("Promise 21", "This is a change (one, with all of them; also if none is carried out).");
        LeapStones x = Checks.river("0:1,5;1:2,5;2:3,5;g");
        Checks.due("one", x.count(7), 1);
        int[] before = Checks.everything(x);
        Checks.due("all kinds of orders", Checks.carry(x, "f0:1-1;l;d;0:7-9*2;g;l;f*:5-5;l"), 8);
        Checks.due("one more", x.count(7), 2);
        Checks.due("undone with all of them", x.undo(), 1);
        Checks.dueAll("as before", Checks.everything(x), before);
        Checks.due("no flood is kept", x.dry(), -5);
        Checks.due("none is carried out", Checks.carry(x, "d;0:9"), 0);
        Checks.due("a change, too", x.count(7), 2);
        Checks.due("some stones of none that is whole", Checks.carry(x, "0:100-150"), 0);
        Checks.due("a change, too", x.count(7), 3);
        x.undo();
        Checks.dueAll("they are undone", Checks.everything(x), before);
        Checks.carry(x, "x");
        Checks.due("a fault is none", x.count(7), 2);
    }

    private static void returns() {
        Checks.says("Promise 21", "Returns how many orders were carried out whole; "
            + "BAD_TEXT if the pad has a fault (then it stays).");
        LeapStones x = new LeapStones();
        Checks.due("an empty pad", x.carryOut(), -3);
        Checks.due("one", Checks.carry(x, "0:1,2,3"), 1);
        Checks.due("two", Checks.carry(x, "0:1;0:2"), 2);
        Checks.due("forty", Checks.carry(x, "g;".repeat(39) + "g"), 40);
        Checks.due("an order that was not carried out whole", Checks.carry(x, "0:4;0:100-140;0:5"), 1);
        Checks.due("a fault at the end", Checks.carry(x, "1:1;1:2;"), -3);
        Checks.due("nothing was carried out", x.ofWalker(1, 0), 0);
        Checks.due("it stays", x.count(6), 8);
        Checks.due("its fault", x.fault(), 8);
        Checks.due("it goes on", Checks.carry(x, "1:3"), 3);
        Checks.due("all three", x.ofWalker(1, 0), 3);
        Checks.due("no change by a fault", x.count(7), 5);
    }
}
