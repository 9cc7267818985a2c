import java.util.ArrayDeque;

/** The sentences of promises 22 to 24. */
final class EdgesOfHistory {
    private static final int ALL = LeapStones.NONE;
    private static final int CHANGES = 15;

    private EdgesOfHistory() {
    }

    static void run() {
        undoesEverything();
        undoLeavesPadSlotsHistory();
        sixStates();
        eachChangeRecords();
        nothingElseRecords();
        oldestIsDropped();
        ordersRecordNothing();
        undoReturns();
        saves();
        savesNoPadNoHistory();
        saveReturns();
        restores();
        restoreReturns();
    }

    /** A run that goes on, with a meeting, leaps, a slip and four floods that are kept; slot 0 is saved. */
    private static LeapStones busy() {
        LeapStones x = Checks.river("0:1-9*2,20;1:1-9*3,21;2:1-9*4,22;f0:4-4;g;l;l", "f1:2-2;f2:6-6;f*:9-9");
        x.set(LeapStones.HIGH, 21);
        x.save(0);
        return x;
    }

    /** Makes one of the changes of which each leaves something different; returns its answer. */
    private static int change(LeapStones x, int kind) {
        switch (kind) {
            case 0: return x.set(LeapStones.LOW, 7);
            case 1: return x.set(LeapStones.HIGH, 1);
            case 2: return x.set(LeapStones.SEARCH, 0);
            case 3: return x.set(LeapStones.ORDER, 5);
            case 4: return x.stone(0, 1, 9);
            case 5: return x.stone(2, 0, 5);
            case 6: return x.flood(ALL, 0, 3);
            case 7: return x.flood(1, 250, 299);
            case 8: return x.dry();
            case 9: return x.begin();
            case 10: return x.leap();
            case 11: return x.run();
            case 12: return Checks.carry(x, "f*:5-7;l;2:100-103;d;d;g;l;l");
            case 13: return Checks.carry(x, "d;d;d;d;f*:1-1;f0:2-2;f1:3-3;f2:5-5;f*:7-7");
            default: return Checks.carry(x, "0:5*9;f*:0-3;g;l;l;l;l");
        }
    }

    private static void same(String what, LeapStones x, LeapStones twin) {
        Checks.dueAll(what, Checks.everything(x), Checks.everything(twin));
    }

    /** All that can be seen of two objects, also of what their floods took; changes both. */
    private static void sameToTheEnd(String what, LeapStones x, LeapStones twin) {
        same(what, x, twin);
        for (int i = 0; i < 5; i++) {
            Checks.due(what + ", dry " + i, x.dry(), twin.dry());
        }
        Checks.due(what + ", run", x.run(), twin.run());
        same(what + ", then", x, twin);
    }

    private static void undoesEverything() {
        Checks.says("Promise 22",
            "Undoes the latest change: everything except the pad, the slots and the history is as it was before it.");
        for (int kind = 0; kind < CHANGES; kind++) {
            LeapStones x = busy();
            Checks.isTrue("change " + kind + " is no error", change(x, kind) >= 0);
            Checks.due("undo", x.undo(), 3);
            sameToTheEnd("change " + kind, x, busy());
        }
        LeapStones x = busy();
        x.flood(ALL, 0, 299);
        x.begin();
        x.restore(0);
        sameToTheEnd("restored", x, busy());
        LeapStones y = busy();
        y.flood(ALL, 0, 299);
        y.set(LeapStones.ORDER, 2);
        y.restore(0);
        y.undo();
        Checks.due("a restore is undone, too", y.count(0), 0);
        Checks.due("its floods", y.count(1), 4);
        Checks.due("its ORDER", y.count(5), 2);
        y.undo();
        y.undo();
        sameToTheEnd("three are undone, one by one", y, busy());
    }

    private static void undoLeavesPadSlotsHistory() {
        Checks.says("Promise 22", "A history of at most 6 states is kept:");
        LeapStones x = new LeapStones();
        for (int i = 1; i <= 8; i++) {
            x.set(LeapStones.LOW, i);
            Checks.due("of " + i + " changes", x.count(7), Math.min(i, 6));
        }
        Checks.putText(x, "0:1");
        x.save(1);
        x.undo();
        Checks.due("the pad stays", x.count(6), 3);
        Checks.due("the slot stays", x.restore(1) + x.count(2), 8);
        for (int i = 0; i < 6; i++) {
            Checks.due("undo " + i, x.undo(), 5 - i);
        }
        Checks.due("the seventh", x.undo(), -5);
        Checks.due("the pad stays", x.fault(), -6);
        LeapStones y = new LeapStones();
        Checks.carry(y, "0:1");
        y.undo();
        Checks.due("undo does not bring a text back", y.count(6), 0);
    }

    /** Changes and undos in many orders, beside a plain row of the states. */
    private static void sixStates() {
        for (int pattern = 1; pattern <= 60; pattern++) {
            LeapStones x = new LeapStones();
            ArrayDeque<Integer> row = new ArrayDeque<>();
            int low = 0;
            for (int i = 0; i < 90; i++) {
                if (i * pattern * 7 / 10 % 5 < 3) {
                    row.addLast(low);
                    if (row.size() > 6) {
                        row.removeFirst();
                    }
                    low = i + 1;
                    x.set(LeapStones.LOW, low);
                } else if (row.isEmpty()) {
                    Checks.due("no change", x.undo(), -5);
                } else {
                    low = row.removeLast();
                    Checks.due("changes", x.undo(), row.size());
                }
                Checks.due("LOW", x.count(2), low);
            }
        }
    }

    private static void eachChangeRecords() {
        Checks.says("Promise 22", "each method that is a change, and returns no error, "
            + "records the state before it (also if nothing is different then);");
        for (int kind = 0; kind < CHANGES; kind++) {
            LeapStones x = busy();
            change(x, kind);
            Checks.due("change " + kind, x.count(7), 4);
        }
        LeapStones x = Checks.river("0:5;g");
        x.save(0);
        int changes = 1;
        x.set(LeapStones.LOW, 0);
        Checks.due("the same value", x.count(7), ++changes);
        x.stone(0, 5, 1);
        Checks.due("the same stone", x.count(7), ++changes);
        x.restore(0);
        Checks.due("the same state", x.count(7), ++changes);
        x.begin();
        Checks.due("the same run", x.count(7), ++changes);
        Checks.carry(x, "l");
        Checks.due("a text of which nothing is carried out", x.count(7), ++changes);
        LeapStones y = new LeapStones();
        y.flood(ALL, 0, 299);
        Checks.due("a flood that takes nothing", y.count(7), 1);
        y.dry();
        Checks.due("and gives nothing back", y.count(7), 2);
    }

    private static void nothingElseRecords() {
        LeapStones x = busy();
        Checks.due("three changes", x.count(7), 3);
        x.set(LeapStones.LOW, 300);
        x.set(4, 0);
        x.stone(3, 0, 1);
        x.stone(0, 300, 1);
        x.flood(3, 0, 0);
        x.flood(ALL, 1, 0);
        x.carryOut();
        x.restore(1);
        x.restore(2);
        Checks.due("not an error", x.count(7), 3);
        x.save(0);
        x.put('g');
        x.fault();
        x.wipe();
        x.walking(0);
        x.runWith(0, 0, 0);
        x.cheapest(0);
        x.lostBy(0, 299);
        Checks.everything(x);
        Checks.due("not what is no change", x.count(7), 3);
        LeapStones y = new LeapStones();
        y.dry();
        y.leap();
        y.run();
        y.undo();
        Checks.due("not what is not possible", y.count(7), 0);
        LeapStones z = Checks.river("0:0-39;f0:0-0;0:50");
        z.stone(0, 0, 1);
        z.dry();
        Checks.due("not what would be too many", z.count(7), 1);
    }

    private static void oldestIsDropped() {
        Checks.says("Promise 22", "when one more is recorded, the oldest one is dropped.");
        LeapStones x = new LeapStones();
        for (int key = 1; key <= 6; key++) {
            x.stone(0, key, key);
        }
        for (int i = 0; i < 6; i++) {
            x.undo();
        }
        Checks.due("of six none is dropped", x.count(0), 0);
        for (int key = 1; key <= 7; key++) {
            x.stone(0, key, key);
        }
        for (int i = 0; i < 6; i++) {
            x.undo();
        }
        Checks.dueAll("of seven the oldest one", Checks.stonesOf(x, 0), 1, 1);
        Checks.due("there is none ahead of it", x.undo(), -5);
        for (int key = 2; key <= 14; key++) {
            x.stone(0, key, 1);
        }
        for (int i = 0; i < 6; i++) {
            x.undo();
        }
        Checks.due("of thirteen seven", x.count(0), 8);
        Checks.due("there is none ahead of them", x.undo(), -5);
    }

    private static void ordersRecordNothing() {
        Checks.says("Promise 22", "An order of a text records nothing by itself.");
        LeapStones x = Checks.river("0:1-9;1:1-9;2:1-9;f*:2-2;f0:3-3;d;g;l;l");
        Checks.due("one change", x.count(7), 1);
        x.undo();
        Checks.due("of all orders", x.count(0), 0);
        Checks.due("no run", x.ofRun(0), -6);
        Checks.due("no flood", x.count(1), 0);
        Checks.due("none is left", x.undo(), -5);
        LeapStones y = new LeapStones();
        for (int i = 0; i < 5; i++) {
            y.set(LeapStones.LOW, i + 1);
        }
        Checks.carry(y, "g;g;g;g;g;g;g;g");
        Checks.due("six changes", y.count(7), 6);
        for (int i = 0; i < 6; i++) {
            y.undo();
        }
        Checks.due("none was dropped", y.count(2), 0);
    }

    private static void undoReturns() {
        Checks.says("Promise 22", "Returns how many changes can be undone then; NOT_POSSIBLE if there is none.");
        LeapStones x = new LeapStones();
        Checks.due("none", x.undo(), -5);
        x.begin();
        Checks.due("one", x.undo(), 0);
        Checks.due("none again", x.undo(), -5);
        x.begin();
        x.begin();
        Checks.due("one is left", x.undo(), 1);
        Checks.due("undo is no change", x.count(7), 1);
        Checks.due("none is left", x.undo(), 0);
    }

    private static void saves() {
        Checks.says("Promise 23", "Saves everything except the pad, the history and the slots in a slot, "
            + "and overwrites what was saved there.");
        for (int kind = 0; kind < CHANGES; kind++) {
            LeapStones x = busy();
            change(x, kind);
            x.save(1);
            LeapStones twin = busy();
            change(twin, kind);
            for (int other = 0; other < CHANGES; other++) {
                change(x, other);
            }
            change(x, 14);
            x.restore(1);
            sameToTheEnd("saved behind change " + kind, x, twin);
        }
        LeapStones x = busy();
        x.flood(ALL, 0, 299);
        x.save(0);
        x.stone(0, 5, 1);
        x.restore(0);
        Checks.due("overwritten", x.count(0), 0);
        Checks.due("with its floods", x.count(1), 4);
        x.stone(1, 5, 1);
        x.save(1);
        x.restore(0);
        Checks.due("each slot has its own", x.count(0), 0);
        x.restore(1);
        Checks.due("the other one", x.count(0), 1);
        LeapStones y = new LeapStones();
        y.save(1);
        y.begin();
        y.restore(1);
        Checks.due("no run is saved, too", y.ofRun(0), -6);
        Checks.due("slot 0 has nothing by that", y.restore(0), -5);
    }

    private static void savesNoPadNoHistory() {
        LeapStones x = busy();
        Checks.due("no change", x.count(7), 3);
        Checks.putText(x, "0:1");
        x.save(0);
        x.wipe();
        Checks.putText(x, "1:22");
        x.begin();
        x.restore(0);
        Checks.due("the pad stays", x.count(6), 4);
        Checks.due("the history stays, and has one more", x.count(7), 5);
        x.undo();
        Checks.due("undone to the run that was begun", x.ofRun(5), 0);
        LeapStones y = new LeapStones();
        y.save(0);
        y.stone(0, 1, 1);
        y.save(1);
        y.restore(0);
        Checks.due("a slot holds no slots", y.restore(1), 1);
    }

    private static void saveReturns() {
        Checks.says("Promise 23", "- `slot`: 0 or 1");
        LeapStones x = Checks.river("0:1-9;1:1-9;2:5");
        Checks.due("-1", x.save(-1), -2);
        Checks.due("0", x.save(0), 19);
        Checks.due("1", x.save(1), 19);
        Checks.due("2", x.save(2), -2);

        Checks.says("Promise 23", "Returns how many stones there are; BAD_VALUE if there is no such slot.");
        Checks.due("none", new LeapStones().save(0), 0);
        x.flood(ALL, 5, 5);
        Checks.due("without those of a flood", x.save(0), 16);
        Checks.due("all that there can be", Checks.river("0:0-39", "1:0-39", "2:0-39").save(1), 120);
        Checks.due("the lowest int", x.save(Integer.MIN_VALUE), -2);
        Checks.due("the highest int", x.save(Integer.MAX_VALUE), -2);
    }

    private static void restores() {
        Checks.says("Promise 24", "Restores what was saved last in a slot, which keeps it. This is a change.");
        LeapStones x = busy();
        for (int i = 0; i < 3; i++) {
            x.run();
            x.flood(ALL, i, 299);
            x.set(LeapStones.SEARCH, 2);
            int changes = x.count(7);
            x.restore(0);
            Checks.due("a change", x.count(7), Math.min(6, changes + 1));
            same("kept, time " + i, x, busy());
        }
        x.undo();
        Checks.due("undone", x.count(4), 2);
        LeapStones z = busy();
        z.restore(0);
        z.leap();
        z.flood(ALL, 0, 299);
        z.restore(0);
        sameToTheEnd("what comes then does not change it", z, busy());
        LeapStones y = new LeapStones();
        y.save(0);
        y.stone(0, 1, 1);
        y.save(0);
        y.stone(0, 2, 1);
        Checks.due("what was saved last", y.restore(0), 1);
    }

    private static void restoreReturns() {
        Checks.says("Promise 24", "- `slot`: 0 or 1");
        LeapStones x = Checks.river("0:1-9;1:1-9;2:5");
        x.save(0);
        x.save(1);
        Checks.due("-1", x.restore(-1), -2);
        Checks.due("0", x.restore(0), 19);
        Checks.due("1", x.restore(1), 19);
        Checks.due("2", x.restore(2), -2);

        Checks.says("Promise 24", "Returns how many stones there are then; BAD_VALUE if there is no such slot; "
            + "NOT_POSSIBLE if nothing was saved in it.");
        x.flood(ALL, 0, 299);
        Checks.due("stones of then", x.restore(0), 19);
        LeapStones y = new LeapStones();
        Checks.due("nothing in 0", y.restore(0), -5);
        Checks.due("nothing in 1", y.restore(1), -5);
        y.save(1);
        Checks.due("nothing in 0 still", y.restore(0), -5);
        Checks.due("no stones in 1, which is something", y.restore(1), 0);
        y.undo();
        Checks.due("an undo takes nothing out of a slot", y.restore(1), 0);
        Checks.due("the lowest int", y.restore(Integer.MIN_VALUE), -2);
        Checks.due("the highest int", y.restore(Integer.MAX_VALUE), -2);
    }
}
