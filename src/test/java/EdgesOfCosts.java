/** The sentences of 'What a leap costs'. */
final class EdgesOfCosts {
    private EdgesOfCosts() {
    }

    static void run() {
        placeAndMany();
        oneByOne();
        doubling();
        doublingThenHalving();
        halving();
        toHalve();
    }

    /**
     * What it costs walker 0 to leap from place i of its n stones to place j, or off if j is n. The keys of its stones
     * are 3, 6, 9, ..; the goal is as far below the key of j as 'below' tells.
     */
    private static int looks(int search, int n, int i, int j, int below) {
        LeapStones x = new LeapStones();
        for (int place = 0; place < n; place++) {
            x.stone(0, 3 * place + 3, 1);
        }
        x.stone(1, 3 * j + 3 - below, 1);
        x.stone(2, 3 * j + 3 - below, 1);
        x.set(LeapStones.SEARCH, search);
        x.set(LeapStones.LOW, 3 * i + 1);
        x.begin();
        Checks.due("walker 0 leaps", x.leap(), 0);
        Checks.due("to place " + j, x.ofWalker(0, 1), j);
        return x.ofWalker(0, 4);
    }

    /** The costs from place i to all places behind it, the last one for a leap off; the goal is no key of a stone, too. */
    private static void dueTo(int search, int n, int i, int... costs) {
        Checks.due("a cost for each place", costs.length, n - i);
        for (int j = i + 1; j <= n; j++) {
            String leap = "SEARCH " + search + ", " + n + " stones, from " + i + " to " + j;
            Checks.due(leap, looks(search, n, i, j, 0), costs[j - i - 1]);
            Checks.due(leap + ", goal below", looks(search, n, i, j, 2), costs[j - i - 1]);
        }
    }

    private static void placeAndMany() {
        Checks.says("What a leap costs", "A leap costs looks at stones. With i for the place of the walker's stone "
            + "among its stones, and n for how many it has:");
        LeapStones x = Checks.river("0:5,6,7,20;1:20;2:20;g");
        x.set(LeapStones.SEARCH, 0);
        x.stone(0, 2, 1);
        x.stone(0, 6, 3);
        x.leap();
        Checks.due("stones behind it cost nothing", x.ofWalker(0, 4), 3);
        LeapStones y = Checks.river("0:5,6,7,20;1:20;2:20;g;f0:6-6;0:1,2,3;l");
        // its stones are 1, 2, 3, 5, 7, 20; it stands on place 3, and looks at 4 and 5
        Checks.due("the stones of now", y.ofWalker(0, 4), 2);
        Checks.due("of the run, too", y.ofRun(6), 2);
        Checks.due("others did not look", y.ofWalker(1, 4) + y.ofWalker(2, 4), 0);
    }

    private static void oneByOne() {
        Checks.says("What a leap costs", "- with SEARCH as 0, it looks at the stones i + 1, i + 2, and so on, "
            + "up to the first one that is not short of the goal (with it), or to the last one;");
        dueTo(0, 1, 0, 0);
        dueTo(0, 2, 0, 1, 1);
        dueTo(0, 2, 1, 0);
        dueTo(0, 5, 0, 1, 2, 3, 4, 4);
        dueTo(0, 5, 2, 1, 2, 2);
        dueTo(0, 40, 36, 1, 2, 3, 3);
        Checks.due("the longest", looks(0, 40, 0, 39, 0), 39);
        Checks.due("the longest, off", looks(0, 40, 0, 40, 0), 39);
    }

    private static void doubling() {
        Checks.says("What a leap costs", "- with 1, it looks at the stones i + 1, i + 2, i + 4, i + 8, and so on, "
            + "as far as there are such stones, up to the first one that is not short of the goal (with it);");
        dueTo(1, 1, 0, 0);
        // off: 1 is there, 2 is not
        dueTo(1, 2, 0, 1, 1);
        // off: 1, 2
        dueTo(1, 3, 0, 1, 2, 2);
        dueTo(1, 3, 2, 0);
        // off: 1, 2, 4; 8 is the last stone of 9, and none of 8 (there it halves between 4 and 8: 6, 7)
        Checks.due("8 is there", looks(1, 9, 0, 9, 0), 4);
        Checks.due("8 is not there", looks(1, 8, 0, 8, 0), 3 + 2);
        Checks.due("16 is there", looks(1, 17, 0, 17, 0), 5);
        Checks.due("16 is not there", looks(1, 16, 0, 16, 0), 4 + 3);
        Checks.due("from 3, 11 is there", looks(1, 12, 3, 12, 0), 4);
        Checks.due("from 4, 12 is not there", looks(1, 12, 4, 12, 0), 3 + 2);
    }

    private static void doublingThenHalving() {
        Checks.says("What a leap costs", "then it halves between the greatest of these places (or i) "
            + "whose stone is short of the goal and the one that is not (or n, if there is none such);");
        // to 1: 1. to 2: 1, 2. to 3 and 4: 1, 2, 4, then 3. to 5..8: 1, 2, 4, 8, then two of 5, 6, 7. and so on.
        dueTo(1, 40, 0, 1, 2, 4, 4, 6, 6, 6, 6, 8, 8, 8, 8, 8, 8, 8, 8, 10, 10, 10, 10, 10, 10, 10, 10, 10, 10, 10, 10,
            10, 10, 10, 10, 9, 9, 9, 9, 9, 9, 9, 9);
        dueTo(1, 40, 7, 1, 2, 4, 4, 6, 6, 6, 6, 8, 8, 8, 8, 8, 8, 8, 8, 10, 10, 10, 10, 10, 10, 10, 10, 10, 10, 10, 10,
            10, 10, 10, 10, 6);
        dueTo(1, 18, 0, 1, 2, 4, 4, 6, 6, 6, 6, 8, 8, 8, 8, 8, 8, 8, 8, 6, 6);
        dueTo(1, 17, 0, 1, 2, 4, 4, 6, 6, 6, 6, 8, 8, 8, 8, 8, 8, 8, 8, 5);
        // to 5: 1, 2, 4, then between 4 and 7 (there is no stone 7): 5. to 6, and off: 5, 6
        dueTo(1, 7, 0, 1, 2, 4, 4, 4, 5, 5);
        dueTo(1, 40, 38, 1, 1);
        dueTo(1, 40, 39, 0);
    }

    private static void halving() {
        Checks.says("What a leap costs", "- with 2, it halves between i and n.");
        dueTo(2, 1, 0, 0);
        dueTo(2, 2, 0, 1, 1);
        dueTo(2, 2, 1, 0);
        // between 0 and 3: 1; then it is 1, or between 1 and 3: 2
        dueTo(2, 3, 0, 1, 2, 2);
        dueTo(2, 9, 0, 3, 3, 3, 3, 3, 3, 3, 4, 4);
        dueTo(2, 40, 0, 5, 5, 5, 6, 6, 5, 5, 5, 6, 6, 5, 5, 5, 6, 6, 5, 5, 5, 6, 6, 5, 5, 5, 6, 6, 5, 5, 5, 6, 6, 5, 5, 5,
            6, 6, 5, 5, 5, 6, 6);
        dueTo(2, 40, 7, 5, 5, 5, 5, 5, 5, 5, 5, 5, 5, 5, 5, 5, 5, 5, 5, 5, 5, 5, 5, 5, 5, 5, 5, 5, 5, 5, 5, 5, 5, 5, 6, 6);
        dueTo(2, 40, 38, 1, 1);
        dueTo(2, 40, 39, 0);
    }

    private static void toHalve() {
        Checks.says("What a leap costs", "To halve between the places p and q: as long as q - p is above 1, it looks "
            + "at the stone (p + q) / 2, rounded down; if this is short of the goal, its place becomes p, otherwise q.");
        // q - p is 1: no look. q - p is 2: one.
        Checks.due("0 and 1", looks(2, 1, 0, 1, 0), 0);
        Checks.due("0 and 2", looks(2, 2, 0, 2, 0), 1);
        // 0 and 5: 2 is looked at (2.5 rounded down); to 1: 1; to 2: 1; to 3: 3; to 4: 3, 4; off: 3, 4
        dueTo(2, 5, 0, 2, 2, 2, 3, 3);
        // 1 and 6: 3 (3.5 rounded down); to 2: 2; to 3: 2; to 4: 4; to 5: 4, 5; off: 4, 5
        dueTo(2, 6, 1, 2, 2, 2, 3, 3);
        // 1 and 5: 3; to 2 and 3: 2; to 4 and off: 4
        dueTo(2, 5, 1, 2, 2, 2, 2);
        for (int j = 1; j <= 16; j++) {
            Checks.due("a power of two: always four", looks(2, 16, 0, j, 0), 4);
        }
    }
}
