/** What the tests share: counting the answers that are not due, and putting whole texts on the pad. */
final class Checks {
    private static int right = 0;
    private static int wrong = 0;

    private Checks() {
    }

    static void due(String call, long got, long want) {
        if (got == want) {
            right++;
        } else {
            wrong++;
            System.out.println(call + " answered " + got + ", due is " + want);
        }
    }

    static void isTrue(String what, boolean holds) {
        due(what, holds ? 1 : 0, 1);
    }

    /** Several answers in a row, told together. */
    static void dueAll(String calls, int[] got, int... want) {
        due(calls + ": how many", got.length, want.length);
        for (int i = 0; i < Math.min(got.length, want.length); i++) {
            due(calls + " [" + i + "]", got[i], want[i]);
        }
    }

    static int wrongSoFar() {
        return wrong;
    }

    static void close(String test) {
        System.out.println(test + ": " + right + " answers as due, " + wrong + " not");
        if (wrong > 0 || right == 0) {
            System.exit(1);
        }
    }

    /** The number by which put() takes up to 8 characters. */
    static long packed(String characters) {
        long number = 0;
        for (int i = 0; i < characters.length(); i++) {
            number = number << 8 | characters.charAt(i);
        }
        return number;
    }

    static void putText(LeapStones x, String text) {
        for (int i = 0; i < text.length(); i += 8) {
            x.put(packed(text.substring(i, Math.min(text.length(), i + 8))));
        }
    }

    static LeapStones with(String... texts) {
        LeapStones x = new LeapStones();
        for (String text : texts) {
            putText(x, text);
            x.carryOut();
        }
        return x;
    }

    /** The keys and repeats of a walker's stones: key, repeats, key, repeats, .. */
    static int[] stonesOf(LeapStones x, int walker) {
        int many = x.ofWalker(walker, 0);
        int[] all = new int[2 * many];
        for (int i = 0; i < many; i++) {
            all[2 * i] = x.ofStone(walker, i, 0);
            all[2 * i + 1] = x.ofStone(walker, i, 1);
        }
        return all;
    }

    static int[] run(LeapStones x) {
        int[] all = new int[8];
        for (int i = 0; i < all.length; i++) {
            all[i] = x.ofRun(i);
        }
        return all;
    }

    static int[] walker(LeapStones x, int walker) {
        int[] all = new int[7];
        for (int i = 0; i < all.length; i++) {
            all[i] = x.ofWalker(walker, i);
        }
        return all;
    }
}
