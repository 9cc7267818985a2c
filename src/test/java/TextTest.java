/** Promises 18 to 21: put, wipe, fault, carryOut. */
final class TextTest {
    public static void main(String[] args) {
        promise18();
        promise19();
        promise20();
        promise20EveryPlace();
        promise21();
        promise21StopsAtErrors();
        Checks.close("TextTest");
    }

    private static void promise18() {
        LeapStones x = new LeapStones();
        Checks.due("no character", x.put(0), -2);
        Checks.due("code 32", x.put(32), -2);
        Checks.due("code 127", x.put(127), -2);
        Checks.due("code 33", x.put(33), 1);
        Checks.due("code 126", x.put(126), 2);
        Checks.due("a hole", x.put(Checks.packed("a") << 16 | 'b'), -2);
        Checks.due("a hole at the end", x.put(Checks.packed("a") << 8), -2);
        Checks.due("a bit far above", x.put(1L << 63 | 'b'), -2);
        Checks.due("a code above", x.put(200L << 8 | 'b'), -2);
        Checks.due("all bits", x.put(-1), -2);
        Checks.due("the lowest number", x.put(Long.MIN_VALUE), -2);
        Checks.due("a bad one of eight", x.put(Checks.packed("abc defg")), -2);
        Checks.due("nothing was put by that", x.wipe(), 2);
        Checks.due("the last is lowest", x.put('0' << 8 | ':'), 2);
        Checks.due("in two calls", x.put(Checks.packed("299*9;d;")), 10);
        Checks.due("so it is no fault up to the end", x.fault(), 10);
        for (int i = 0; i < 8; i++) {
            x.put(Checks.packed("abcdefgh"));
        }
        Checks.due("74", x.count(6), 74);
        Checks.due("82", x.put(Checks.packed("abcdefgh")), -4);
        Checks.due("81", x.put(Checks.packed("abcdefg")), -4);
        Checks.due("bad ahead of too many", x.put(Checks.packed("abc efg")), -2);
        Checks.due("80", x.put(Checks.packed("abcdef")), 80);
        Checks.due("one more", x.put('a'), -4);
        Checks.due("no change", x.count(7), 0);
    }

    private static void promise19() {
        LeapStones x = new LeapStones();
        Checks.due("empty", x.wipe(), 0);
        Checks.putText(x, "0:1");
        Checks.due("its length", x.wipe(), 3);
        Checks.due("empty then", x.count(6), 0);
        Checks.due("the fault of the empty one", x.fault(), 0);
        Checks.due("no change", x.count(7), 0);
        Checks.putText(x, "g");
        Checks.due("nothing of the old text", x.fault(), -6);
    }

    private static void fault(String text, int due) {
        LeapStones x = new LeapStones();
        Checks.putText(x, text);
        Checks.due("fault of " + text, x.fault(), due);
        Checks.due("fault of " + text + " again", x.fault(), due);
        Checks.due("carryOut of " + text, x.carryOut() == -3 ? 1 : 0, due == -6 ? 0 : 1);
        Checks.due("the pad of " + text, x.count(6), due == -6 ? 0 : text.length());
    }

    private static void promise20() {
        String[] right = {"g", "d", "l", "g;d;l", "0:1", "1:0", "2:299", "0:10", "0:1-2", "0:5-2", "0:1*9", "0:1-2*1",
            "0:1,2,3-4*5,6", "f0:1-2", "f2:0-299", "f*:5-5", "f1:9-3", "0:1;f*:0-9;2:7*2;l;l"};
        for (String text : right) {
            fault(text, -6);
        }
        fault("", 0);
        fault("3:1", 0);
        fault("a", 0);
        fault("G", 0);
        fault(";", 0);
        fault("*", 0);
        fault("g;", 2);
        fault("gg", 1);
        fault("g,d", 1);
        fault("d1", 1);
        fault("l;;l", 2);
        fault("0", 1);
        fault("0:", 2);
        fault("00:", 1);
        fault("0::", 2);
        fault("0:1,", 4);
        fault("0:1-", 4);
        fault("0:1*", 4);
        fault("0:1**", 4);
        fault("0:1*0", 4);
        fault("0:1*12", 5);
        fault("0:1*2-3", 5);
        fault("0:1-2-3", 5);
        fault("0:1-2*3*4", 7);
        fault("0:300", 4);
        fault("0:30", -6);
        fault("0:299", -6);
        fault("0:2999", 5);
        fault("0:01", 3);
        fault("0:00", 3);
        fault("0:1-01", 5);
        fault("0:1-300", 6);
        fault("0:1-0", -6);
        fault("0:-1", 2);
        fault("0:1.2", 3);
        fault("f", 1);
        fault("f3", 1);
        fault("f0", 2);
        fault("f0:", 3);
        fault("f0:1", 4);
        fault("f0:1,", 4);
        fault("f0:1-", 5);
        fault("f0:1-2,3", 6);
        fault("f0:1-2*3", 6);
        fault("f0:400-2", 5);
        fault("f0:4-02", 6);
        fault("f**", 2);
        fault("f*;", 2);
        fault("f:1-2", 1);
    }

    /** A bad sign at each place of a text, and the text cut off at each place. */
    private static void promise20EveryPlace() {
        String text = "0:12-34*5,6;f*:7-89;f1:1-2;d;g;l;2:299*9";
        for (int i = 0; i < text.length(); i++) {
            LeapStones x = new LeapStones();
            Checks.putText(x, text.substring(0, i) + "!" + text.substring(i + 1));
            Checks.due("fault at " + i, x.fault(), i);
            x.wipe();
            Checks.putText(x, text.substring(0, i));
            String end = text.substring(0, i).replaceAll(".*;", "");
            boolean whole = end.matches("[dgl]|f[12*]:\\d+-\\d+|[02]:(\\d+(-\\d+)?(\\*\\d)?,)*\\d+(-\\d+)?(\\*\\d)?");
            Checks.due("cut off at " + i, x.fault(), whole ? -6 : i);
        }
        LeapStones x = new LeapStones();
        Checks.putText(x, "g;".repeat(39) + "g");
        Checks.due("forty orders", x.fault(), -6);
        Checks.due("carried out", x.carryOut(), 40);
        Checks.putText(x, "l;".repeat(40));
        Checks.due("a full pad that ends too early", x.fault(), 80);
    }

    private static void promise21() {
        LeapStones x = new LeapStones();
        Checks.due("an empty pad", x.carryOut(), -3);
        Checks.due("no change", x.count(7), 0);
        Checks.due("bad", Checks.carry(x, "0:1;x"), -3);
        Checks.due("nothing was laid", x.count(0), 0);
        Checks.due("the pad stays", x.wipe(), 5);
        Checks.due("stones", Checks.carry(x, "0:3-5*2,1,4*7;1:8*9"), 2);
        Checks.due("the pad is empty", x.count(6), 0);
        Checks.dueAll("0", Checks.stonesOf(x, 0), 1, 1, 3, 2, 4, 7, 5, 2);
        Checks.dueAll("1", Checks.stonesOf(x, 1), 8, 9);
        Checks.due("without repeats it is 1", Checks.carry(x, "0:3"), 1);
        Checks.due("1", x.ofStone(0, 1, 1), 1);
        Checks.due("a second key below the first", Checks.carry(x, "2:9-8;2:7"), 2);
        Checks.dueAll("lays nothing", Checks.stonesOf(x, 2), 7, 1);
        Checks.due("a run, and 0 leaps off", Checks.carry(x, "g;l;l"), 2);
        Checks.dueAll("of one leap", Checks.run(x), 1, 8, 1, 0, 0, 1, 3, 0);
        Checks.due("floods", Checks.carry(x, "f0:1-3;f*:7-8"), 2);
        Checks.due("stones left", x.count(0), 2);
        Checks.due("floods kept", x.count(1), 2);
        Checks.due("dry", Checks.carry(x, "d;d"), 2);
        Checks.due("stones again", x.count(0), 6);
        Checks.due("one change each", x.count(7), 6);
        x.undo();
        Checks.due("undone with all its orders", x.count(1), 2);
        Checks.due("the pad is not", x.count(6), 0);
    }

    private static void promise21StopsAtErrors() {
        LeapStones x = new LeapStones();
        Checks.due("a leap without a run", Checks.carry(x, "l;g"), 0);
        Checks.due("nothing behind it", x.ofRun(0), -6);
        Checks.due("a change all the same", x.count(7), 1);
        Checks.due("the pad is emptied", x.count(6), 0);
        Checks.due("dry without a flood", Checks.carry(x, "g;d;0:1"), 1);
        Checks.due("no stone", x.count(0), 0);
        Checks.due("a flood backwards", Checks.carry(x, "0:1-3;f0:3-2;0:9"), 1);
        Checks.due("no flood", x.count(1), 0);
        Checks.due("three", x.count(0), 3);
        Checks.due("too many", Checks.carry(x, "1:0-38;1:50,3*9,60*2,70;g"), 1);
        Checks.due("what was laid ahead stays", x.ofWalker(1, 0), 40);
        Checks.due("also other repeats", x.ofStone(1, 3, 1), 9);
        Checks.due("an order ends at its first error", Checks.carry(x, "1:60,3*5"), 0);
        Checks.due("what stands behind is not laid", x.ofStone(1, 3, 1), 9);
        Checks.due("no begin", x.ofRun(0), 1);
        Checks.due("a range across the limit", Checks.carry(x, "0:0-99"), 0);
        Checks.due("40", x.ofWalker(0, 0), 40);
        Checks.due("the last one", x.ofStone(0, 39, 0), 39);
        Checks.due("dry with too many", Checks.carry(x, "f0:0-0;0:200;d;2:5"), 2);
        Checks.due("no stone of 2", x.ofWalker(2, 0), 0);
        Checks.due("others than new ones of 40", Checks.carry(x, "0:1-39*3"), 1);
        Checks.due("a leap of a run that is over", Checks.carry(x, "g;l;g"), 1);
    }
}
