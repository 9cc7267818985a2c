/** The sentences of 'Texts' about what a text is, and of promises 18 to 20. */
final class EdgesOfTexts {
    private static final String DIGITS = "0123456789";
    private static final String STARTS = "012fdgl";

    private EdgesOfTexts() {
    }

    static void run() {
        atMost80();
        text();
        order();
        stones();
        walkerDigit();
        repeatsDigit();
        key();
        fault();
        above299();
        endsTooEarly();
        putAppends();
        putBytes();
        putNoMore();
        putReturns();
        wipe();
        faultReturns();
    }

    private static int faultOf(String text) {
        LeapStones x = new LeapStones();
        Checks.putText(x, text);
        return x.fault();
    }

    /** Which of all characters can stand behind the start of a text, and whether it may end there. */
    private static void follow(String start, String those, boolean mayEnd) {
        Checks.due("fault of " + start, faultOf(start), mayEnd ? LeapStones.NONE : start.length());
        LeapStones x = new LeapStones();
        for (char c = 33; c <= 126; c++) {
            Checks.putText(x, start + c);
            int fault = x.fault();
            if (those.indexOf(c) >= 0) {
                Checks.isTrue("behind " + start + " can stand " + c + ", not a fault at " + fault,
                    fault == LeapStones.NONE || fault == start.length() + 1);
            } else {
                Checks.due("fault of " + start + c, fault, start.length());
            }
            x.wipe();
        }
    }

    private static void atMost80() {
        Checks.says("Texts", "The pad is a text of at most 80 characters, a row of orders:");
        LeapStones x = new LeapStones();
        Checks.putText(x, "g;".repeat(39) + "g");
        Checks.due("79", x.count(6), 79);
        Checks.due("no fault", x.fault(), -6);
        Checks.due("80", x.put(';'), 80);
        Checks.due("80 that end too early", x.fault(), 80);
        Checks.due("81", x.put('g'), -4);
        x.wipe();
        Checks.putText(x, "g;".repeat(38) + "f*:0");
        Checks.due("80", x.count(6), 80);
        Checks.due("80 that end within an order", x.fault(), 80);
        x.wipe();
        Checks.putText(x, "g;".repeat(38) + "0:29");
        Checks.due("80 without a fault", x.fault(), -6);
        Checks.due("its orders", x.carryOut(), 39);
        Checks.due("the last one", x.ofStone(0, 0, 0), 29);
        Checks.putText(x, "x" + "g".repeat(79));
        Checks.due("the first of 80", x.fault(), 0);
        x.wipe();
        Checks.putText(x, "g;".repeat(39) + "gx");
        Checks.due("the last of 80", x.fault(), 79);
    }

    private static void text() {
        Checks.says("Texts", "text = order { \";\" order }");
        follow("", STARTS, false);
        follow("g", ";", true);
        follow("g;", STARTS, false);
        follow("g;l", ";", true);
        follow("g;l;", STARTS, false);
        follow("0:5;", STARTS, false);
        follow("f0:5-6;", STARTS, false);
    }

    private static void order() {
        Checks.says("Texts", "order = walker \":\" stones { \",\" stones } "
            + "| \"f\" ( walker | \"*\" ) \":\" key \"-\" key | \"d\" | \"g\" | \"l\"");
        follow("0", ":", false);
        follow("0:", DIGITS, false);
        follow("0:5,", DIGITS, false);
        follow("0:5-6*7,", DIGITS, false);
        follow("0:5,6,", DIGITS, false);
        follow("f", "012*", false);
        follow("f1", ":", false);
        follow("f*", ":", false);
        follow("f1:", DIGITS, false);
        follow("f1:5", DIGITS + "-", false);
        follow("f*:5-", DIGITS, false);
        follow("f*:5-6", DIGITS + ";", true);
        follow("d", ";", true);
        follow("l", ";", true);
    }

    private static void stones() {
        Checks.says("Texts", "stones = key [ \"-\" key ] [ \"*\" repeats ]");
        follow("0:5", DIGITS + "-*,;", true);
        follow("0:5-", DIGITS, false);
        follow("0:5-6", DIGITS + "*,;", true);
        follow("0:5*", "123456789", false);
        follow("0:5-6*", "123456789", false);
        follow("0:5*7", ",;", true);
        follow("0:5-6*7", ",;", true);
        follow("0:5,6", DIGITS + "-*,;", true);
        follow("0:5,6-7", DIGITS + "*,;", true);
    }

    private static void walkerDigit() {
        Checks.says("Texts", "A walker is a digit from 0 to 2,");
        for (String walker : new String[] {"0", "1", "2"}) {
            Checks.due("stones of " + walker, faultOf(walker + ":5"), -6);
            Checks.due("flood of " + walker, faultOf("f" + walker + ":5-6"), -6);
            Checks.due("two digits", faultOf(walker + "0:5"), 1);
        }
        for (String other : new String[] {"3", "9", "/", "-1", "*"}) {
            Checks.due("stones of " + other, faultOf(other + ":5"), 0);
        }
        for (String other : new String[] {"3", "9", "/", "-1"}) {
            Checks.due("flood of " + other, faultOf("f" + other + ":5-6"), 1);
        }
    }

    private static void repeatsDigit() {
        Checks.says("Texts", "repeats a digit from 1 to 9,");
        Checks.due("0", faultOf("0:5*0"), 4);
        Checks.due("1", faultOf("0:5*1"), -6);
        Checks.due("9", faultOf("0:5*9"), -6);
        Checks.due("10", faultOf("0:5*10"), 5);
        Checks.due("the character behind 9", faultOf("0:5*:"), 4);
        Checks.due("the character ahead of 0", faultOf("0:5*/"), 4);
    }

    private static void key() {
        Checks.says("Texts", "a key is 0 to 299, without leading zeros.");
        for (int key = 0; key < 300; key++) {
            Checks.due("key " + key, faultOf("0:" + key), -6);
            Checks.due("keys of a flood " + key, faultOf("f0:" + key + "-" + key), -6);
            int due = key == 0 ? 3 : key < 3 ? -6 : key < 10 ? 4 : key < 30 ? 5 : key < 100 ? 4 : 5;
            Checks.due("two zeros behind " + key, faultOf("0:" + key + "00"), due);
        }
        follow("0:0", "-*,;", true);
        follow("0:1", DIGITS + "-*,;", true);
        follow("0:9", DIGITS + "-*,;", true);
        follow("0:10", DIGITS + "-*,;", true);
        follow("0:100", "-*,;", true);
        follow("0:5-0", "*,;", true);
        follow("f0:0", "-", false);
        follow("f0:5-0", ";", true);
        follow("f0:100", "-", false);
        follow("f0:5-100", ";", true);
        Checks.due("00", faultOf("0:00"), 3);
        Checks.due("007", faultOf("0:007"), 3);
        Checks.due("second key 07", faultOf("0:5-07"), 5);
        Checks.due("-1", faultOf("0:-1"), 2);
    }

    private static void fault() {
        Checks.says("Texts", "The fault is the index of the first character that cannot stand at its place "
            + "when the text is read from left to right");
        String text = "0:12-34*5,6;f*:7-89;f1:1-2;d;g;l;2:299*9";
        for (int i = 0; i < text.length(); i++) {
            Checks.due("a bad one at " + i, faultOf(text.substring(0, i) + "!" + text.substring(i + 1)), i);
            Checks.due("and one behind it", faultOf(text.substring(0, i) + "!" + text.substring(i + 1) + "!"), i);
        }
        Checks.due("one too many", faultOf(text + "!"), text.length());
        Checks.due("what could not be carried out is no fault", faultOf("l;d;f0:9-5;0:9-5;0:0-299"), -6);
        LeapStones x = Checks.river("0:1");
        Checks.putText(x, "0:5;x");
        Checks.due("the fault", x.fault(), 4);
        Checks.due("as long as the pad stays", x.fault(), 4);
        Checks.due("its length", x.count(6), 5);
    }

    private static void above299() {
        Checks.says("Texts", "(also of a digit by which a key would be above 299);");
        follow("0:2", DIGITS + "-*,;", true);
        follow("0:29", DIGITS + "-*,;", true);
        follow("0:3", DIGITS + "-*,;", true);
        follow("0:30", "-*,;", true);
        follow("0:99", "-*,;", true);
        follow("0:299", "-*,;", true);
        follow("0:5-29", DIGITS + "*,;", true);
        follow("0:5-30", "*,;", true);
        follow("0:5-299", "*,;", true);
        follow("f0:29", DIGITS + "-", false);
        follow("f0:30", "-", false);
        follow("f0:299", "-", false);
        follow("f0:5-29", DIGITS + ";", true);
        follow("f0:5-30", ";", true);
        follow("f0:5-299", ";", true);
        Checks.due("299", faultOf("0:299"), -6);
        Checks.due("300", faultOf("0:300"), 4);
        Checks.due("the second key 300", faultOf("0:5-300"), 6);
        Checks.due("the first key of a flood 300", faultOf("f*:300-5"), 5);
    }

    private static void endsTooEarly() {
        Checks.says("Texts", "if there is none and the text ends too early (also if it is empty), "
            + "it is the length of the text.");
        Checks.due("empty", faultOf(""), 0);
        String[] early = {"0", "0:", "0:5-", "0:5*", "0:5-6*", "0:5,", "f", "f*", "f1", "f1:", "f1:5", "f1:5-", "g;",
            "0:5;", "f0:1-2;", "d;l;"};
        for (String text : early) {
            Checks.due("too early: " + text, faultOf(text), text.length());
        }
        String[] whole = {"0:5", "0:5-6", "0:5*7", "0:5-6*7", "0:5,6", "f1:5-6", "f*:5-6", "d", "g", "l", "g;l"};
        for (String text : whole) {
            Checks.due("not too early: " + text, faultOf(text), -6);
        }
        Checks.due("a bad one ahead of that", faultOf("x;"), 0);
    }

    private static void putAppends() {
        Checks.says("Promise 18", "Appends characters to the pad.");
        LeapStones x = new LeapStones();
        x.put(Checks.packed("0:5"));
        x.put(Checks.packed("-7*"));
        x.put('9');
        Checks.due("one text", x.carryOut(), 1);
        Checks.dueAll("behind what there is", Checks.stonesOf(x, 0), 5, 9, 6, 9, 7, 9);
        Checks.due("no change by put()", x.count(7), 1);
    }

    private static void putBytes() {
        Checks.says("Promise 18", "They are given as a number: its lowest 8 bits are the last character, "
            + "the next 8 bits the one before, and so on;");
        LeapStones x = new LeapStones();
        x.put('1' << 24 | ':' << 16 | '2' << 8 | '7');
        Checks.due("carried out", x.carryOut(), 1);
        Checks.due("walker 1, key 27", x.ofStone(1, 0, 0), 27);
        String text = "0:123*45";
        for (int i = 1; i <= 8; i++) {
            LeapStones y = new LeapStones();
            Checks.due("a number of " + i, y.put(Checks.packed(text.substring(0, i))), i);
            Checks.due("their fault", y.fault(), i < 3 || i == 6 ? i : i == 8 ? 7 : -6);
        }

        Checks.says("Promise 18", "- `characters`: 1 to 8 characters");
        Checks.due("0", x.put(0), -2);
        Checks.due("1", x.put(Checks.packed("a")), 1);
        Checks.due("8", x.put(Checks.packed("bcdefghi")), 9);
    }

    private static void putNoMore() {
        Checks.says("Promise 18", "8 bits that are 0 mean that there are no more characters, "
            + "and everything above them has to be 0, too.");
        LeapStones x = new LeapStones();
        for (int zero = 0; zero < 7; zero++) {
            long below = Checks.packed("abcdefg".substring(0, zero));
            for (int bit = 8 * zero + 8; bit < 64; bit++) {
                Checks.due("0 at " + zero + ", bit " + bit, x.put(below | 1L << bit), -2);
            }
            if (zero > 0) {
                Checks.due("0 at " + zero, x.put(below), zero);
                x.wipe();
            }
        }
        Checks.due("a character above 8 bits that are 0", x.put((long) 'a' << 16 | 'b'), -2);
        Checks.due("a character above the lowest 8 bits, which are 0", x.put('a' << 8), -2);
        Checks.due("nothing was put", x.count(6), 0);
    }

    private static void putReturns() {
        Checks.says("Promise 18", "Returns the length of the pad then; BAD_VALUE if there is no character, "
            + "a code is not 33 to 126, or a bit above 8 bits that are 0 is not 0; "
            + "TOO_MANY if the pad would be longer than 80.");
        LeapStones x = new LeapStones();
        Checks.due("none", x.put(0), -2);
        for (int place = 0; place < 8; place++) {
            for (int code : new int[] {1, 31, 32, 127, 128, 161, 200, 255}) {
                long others = Checks.packed("abcdefgh") & ~(255L << 8 * place);
                Checks.due("code " + code + " at " + place, x.put(others | (long) code << 8 * place), -2);
            }
        }
        Checks.due("alone 32", x.put(32), -2);
        Checks.due("alone 33", x.put(33), 1);
        Checks.due("alone 126", x.put(126), 2);
        Checks.due("alone 127", x.put(127), -2);
        Checks.due("eight 33", x.put(0x2121212121212121L), 10);
        Checks.due("eight 126", x.put(0x7e7e7e7e7e7e7e7eL), 18);
        Checks.due("the lowest number", x.put(Long.MIN_VALUE), -2);
        Checks.due("the highest number", x.put(Long.MAX_VALUE), -2);
        Checks.due("-1", x.put(-1), -2);
        Checks.due("a bit above", x.put(1L << 16 | 'a'), -2);
        Checks.putText(x, "y".repeat(54));
        Checks.due("72", x.count(6), 72);
        Checks.due("80", x.put(Checks.packed("abcdefgh")), 80);
        Checks.due("81", x.put('a'), -4);
        x.wipe();
        Checks.putText(x, "y".repeat(73));
        Checks.due("81 by eight", x.put(Checks.packed("abcdefgh")), -4);
        Checks.due("none of them was put", x.count(6), 73);
        Checks.due("80 by seven", x.put(Checks.packed("abcdefg")), 80);
        Checks.due("88", x.put(Checks.packed("abcdefgh")), -4);
        Checks.due("a bad code ahead of that", x.put(127), -2);
    }

    private static void wipe() {
        Checks.says("Promise 19", "Empties the pad, and returns the length that it had.");
        LeapStones x = new LeapStones();
        Checks.due("empty", x.wipe(), 0);
        for (int length : new int[] {1, 8, 9, 79, 80}) {
            Checks.putText(x, "0:" + "1".repeat(78));
            x.wipe();
            Checks.putText(x, "g".repeat(length));
            Checks.due("its length", x.wipe(), length);
            Checks.due("empty then", x.count(6), 0);
            Checks.due("twice", x.wipe(), 0);
            Checks.due("the fault of an empty text", x.fault(), 0);
        }
        Checks.due("no change", x.count(7), 0);
        x.put('l');
        Checks.due("nothing is left of the old text", x.fault(), -6);
    }

    private static void faultReturns() {
        Checks.says("Promise 20", "Returns the fault of the pad, NONE if there is none.");
        LeapStones x = new LeapStones();
        Checks.due("empty", x.fault(), 0);
        x.put('0');
        Checks.due("0", x.fault(), 1);
        x.put(Checks.packed(":1"));
        Checks.due("0:1", x.fault(), -6);
        x.put('-');
        Checks.due("0:1-", x.fault(), 4);
        x.put(Checks.packed("299"));
        Checks.due("0:1-299", x.fault(), -6);
        x.put('0');
        Checks.due("0:1-2990", x.fault(), 7);
        x.put('g');
        Checks.due("the first one still", x.fault(), 7);
        Checks.due("no change", x.count(7), 0);
        Checks.due("no stone", x.count(0), 0);
    }
}
