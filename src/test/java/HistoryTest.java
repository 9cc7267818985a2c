/** Promises 22 to 24: undo, save, restore. */
final class HistoryTest {
    public static void main(String[] args) {
        promise22();
        promise22Everything();
        promise22ErrorsAndOthers();
        promise23();
        promise24();
        promise24AnotherRun();
        Checks.close("HistoryTest");
    }

    private static void promise22() {
        LeapStones x = new LeapStones();
        Checks.due("nothing", x.undo(), -5);
        for (int key = 1; key <= 8; key++) {
            x.stone(0, key, 1);
            Checks.due("six at most", x.count(7), Math.min(6, key));
        }
        for (int left = 5; left >= 0; left--) {
            Checks.due("undo", x.undo(), left);
            Checks.due("stones", x.count(0), left + 2);
        }
        Checks.due("no more", x.undo(), -5);
        Checks.dueAll("the first two stay", Checks.stonesOf(x, 0), 1, 1, 2, 1);
        x.stone(0, 2, 1);
        Checks.due("a change that changes nothing", x.count(7), 1);
        x.set(LeapStones.LOW, 0);
        Checks.due("another", x.count(7), 2);
    }

    private static LeapStones busy() {
        LeapStones x = Checks.with("0:1-9*2,20;1:1-9*3,21;2:1-9*4,22", "f0:4-4;f1:6-6;g;l;l");
        x.set(LeapStones.HIGH, 21);
        x.save(0);
        return x;
    }

    private static void change(LeapStones x, int kind) {
        switch (kind) {
            case 0 -> x.set(LeapStones.HIGH, 1);
            case 1 -> x.set(LeapStones.LOW, 7);
            case 2 -> x.set(LeapStones.SEARCH, 0);
            case 3 -> x.set(LeapStones.ORDER, 5);
            case 4 -> x.stone(0, 1, 9);
            case 5 -> x.stone(2, 0, 5);
            case 6 -> x.flood(LeapStones.NONE, 0, 3);
            case 7 -> x.dry();
            case 8 -> x.begin();
            case 9 -> x.leap();
            case 10 -> x.run();
            case 11 -> {
                Checks.putText(x, "f*:5-7;l;2:100-103;d;d;g;l;l");
                x.carryOut();
            }
            default -> {
                x.set(LeapStones.LOW, 3);
                x.restore(0);
                x.undo();
            }
        }
    }

    private static void promise22Everything() {
        for (int kind = 0; kind <= 12; kind++) {
            LeapStones x = busy();
            int[] before = Checks.everything(x);
            int changes = x.count(7);
            change(x, kind);
            Checks.due("one change of kind " + kind, x.count(7), changes + 1);
            Checks.due("undo of kind " + kind, x.undo(), changes);
            Checks.dueAll("as before kind " + kind, Checks.everything(x), before);
            Checks.due("floods come back as before", x.dry(), 1);
            Checks.due("it was the flood of 1", x.ofStone(1, 5, 0), 6);
        }
    }

    private static void promise22ErrorsAndOthers() {
        LeapStones x = new LeapStones();
        x.set(0, 300);
        x.stone(0, 0, 0);
        x.flood(3, 0, 0);
        x.dry();
        x.leap();
        x.run();
        x.carryOut();
        x.restore(0);
        x.save(0);
        x.save(2);
        Checks.putText(x, "0:1");
        x.fault();
        Checks.due("no change in all that", x.count(7), 0);
        x.carryOut();
        Checks.putText(x, "0:2");
        x.save(1);
        x.undo();
        Checks.due("the stone is gone", x.count(0), 0);
        Checks.due("the pad stays", x.count(6), 3);
        Checks.due("the slot stays", x.restore(1), 1);
        Checks.due("restore is a change", x.count(7), 1);
    }

    private static void promise23() {
        LeapStones x = Checks.with("0:1-3;1:1");
        Checks.due("slot -1", x.save(-1), -2);
        Checks.due("slot 2", x.save(2), -2);
        Checks.due("slot 0", x.save(0), 4);
        x.stone(2, 5, 5);
        Checks.due("slot 1", x.save(1), 5);
        x.stone(2, 6, 5);
        Checks.due("0 again", x.restore(0), 4);
        Checks.due("1 again", x.restore(1), 5);
        Checks.due("overwrite 0", x.save(0), 5);
        x.flood(0, 0, 299);
        Checks.due("as overwritten", x.restore(0), 5);
        Checks.due("an empty river is saved, too", new LeapStones().save(0), 0);
    }

    private static void promise24() {
        LeapStones x = busy();
        Checks.due("slot -1", x.restore(-1), -2);
        Checks.due("slot 2", x.restore(2), -2);
        Checks.due("nothing saved", x.restore(1), -5);
        int[] before = Checks.everything(x);
        Checks.putText(x, "0:2");
        x.run();
        x.flood(LeapStones.NONE, 0, 299);
        x.set(LeapStones.ORDER, 4);
        int changes = x.count(7);
        Checks.due("restored", x.restore(0), before[0]);
        Checks.dueAll("everything", Checks.everything(x), before);
        Checks.due("not the pad", x.count(6), 3);
        Checks.due("a change more", x.count(7), Math.min(6, changes + 1));
        x.dry();
        x.begin();
        x.set(LeapStones.LOW, 8);
        Checks.due("the slot keeps it", x.restore(0), before[0]);
        Checks.dueAll("everything again", Checks.everything(x), before);
        Checks.due("undo of a restore", x.undo(), 5);
        Checks.due("LOW as before", x.count(2), 8);
    }

    /** What a slot keeps of a run and of floods is not touched by later ones. */
    private static void promise24AnotherRun() {
        LeapStones x = new LeapStones();
        x.save(1);
        Checks.putText(x, "0:1-2*2,5;1:1-2*3,5;2:1-2,5;g;l;l;l");
        x.carryOut();
        x.flood(0, 5, 5);
        x.save(0);
        int[] before = Checks.everything(x);
        Checks.due("two meetings", before[6 + 3], 2);
        Checks.putText(x, "d;d;f*:0-2;0:5*9;g;f1:0-299;f2:0-299;f0:5-5");
        x.carryOut();
        Checks.putText(x, "f*:0-2;0:5*9,6;f0:5-5;1:6;2:6;f1:6-6;f*:0-299;f*:0-9;g");
        x.carryOut();
        Checks.due("over", x.ofRun(0), 1);
        Checks.due("restored", x.restore(0), before[0]);
        Checks.dueAll("with its meetings", Checks.everything(x), before);
        Checks.due("its flood", x.dry(), 1);
        Checks.due("gave back 5", x.ofStone(0, 2, 0), 5);
        Checks.due("of one repeat", x.ofStone(0, 2, 1), 1);
        Checks.due("nothing at all was saved in 1", x.restore(1), 0);
        Checks.due("no run", x.ofRun(0), -6);
        Checks.due("no flood", x.dry(), -5);
    }
}
