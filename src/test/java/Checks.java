import java.util.ArrayList;
import java.util.List;

/** What the tests share: counting the answers that are not due, and putting whole texts on the pad. */
final class Checks {
    private static int right = 0;
    private static int wrong = 0;
    private static final List<String[]> SENTENCES = new ArrayList<>();
    private static final List<Integer> STARTS = new ArrayList<>();

    private Checks() {
    }

    /** The sentence of the document that the next answers test, with the heading under which it stands. */
    static void says(String heading, String words) {
        SENTENCES.add(new String[] {heading, words});
        STARTS.add(right + wrong);
    }

    static List<String[]> sentences() {
        return SENTENCES;
    }

    static void everySentenceIsTested() {
        int end = right + wrong;
        for (int i = SENTENCES.size() - 1; i >= 0; i--) {
            int start = STARTS.get(i);
            isTrue("an answer is looked at for: " + SENTENCES.get(i)[1], end > start);
            end = start;
        }
    }

    static void due(String call, long got, long want) {
        if (got == want) {
            right++;
        } else {
            wrong++;
            if (!SENTENCES.isEmpty()) {
                System.out.println("'" + SENTENCES.get(SENTENCES.size() - 1)[1] + "'");
            }
            System.out.println(call + " answered " + got + ", due is " + want);
        }
    }

    static void isTrue(String what, boolean holds) {
        due(what, holds ? 1 : 0, 1);
    }

    /** Several answers in a row, told together. */
    static void dueAll(String calls, int[] got, int... want) {
        due(calls + ": how many", got.length, want.length);
        for (int i = 0; i < Math.min(got.length, want.length); i++) {
            due(calls + " [" + i + "]", got[i], want[i]);
        }
    }

    static int wrongSoFar() {
        return wrong;
    }

    static void close(String test) {
        System.out.println(test + ": " + right + " answers as due, " + wrong + " not");
        if (wrong > 0 || right == 0) {
            System.exit(1);
        }
    }

    /** The number by which put() takes up to 8 characters. */
    static long packed(String characters) {
        long number = 0;
        for (int i = 0; i < characters.length(); i++) {
            number = number << 8 | characters.charAt(i);
        }
        return number;
    }

    static void putText(LeapStones x, String text) {
        for (int i = 0; i < text.length(); i += 8) {
            x.put(packed(text.substring(i, Math.min(text.length(), i + 8))));
        }
    }

    static int carry(LeapStones x, String text) {
        putText(x, text);
        return x.carryOut();
    }

    static LeapStones with(String... texts) {
        LeapStones x = new LeapStones();
        for (String text : texts) {
            carry(x, text);
        }
        return x;
    }

    /** A river after texts that are to be carried out whole. */
    static LeapStones river(String... texts) {
        LeapStones x = new LeapStones();
        for (String text : texts) {
            due("carryOut() of " + text, carry(x, text), text.split(";").length);
        }
        return x;
    }

    /** The keys and repeats of a walker's stones: key, repeats, key, repeats, .. */
    static int[] stonesOf(LeapStones x, int walker) {
        int many = Math.max(0, x.ofWalker(walker, 0));
        int[] all = new int[2 * many];
        for (int i = 0; i < many; i++) {
            all[2 * i] = x.ofStone(walker, i, 0);
            all[2 * i + 1] = x.ofStone(walker, i, 1);
        }
        return all;
    }

    static int[] run(LeapStones x) {
        int[] all = new int[8];
        for (int i = 0; i < all.length; i++) {
            all[i] = x.ofRun(i);
        }
        return all;
    }

    static int[] walker(LeapStones x, int walker) {
        int[] all = new int[7];
        for (int i = 0; i < all.length; i++) {
            all[i] = x.ofWalker(walker, i);
        }
        return all;
    }

    /** What a call can read of the settings, the river and the run; not the pad, the slots and the history. */
    static int[] everything(LeapStones x) {
        List<Integer> all = new ArrayList<>();
        for (int what = 0; what < 6; what++) {
            all.add(x.count(what));
        }
        addAll(all, run(x));
        for (int walker = 0; walker < 3; walker++) {
            addAll(all, walker(x, walker));
            addAll(all, stonesOf(x, walker));
        }
        for (int i = 0; i < x.ofRun(3); i++) {
            all.add(x.meeting(i, 0));
            all.add(x.meeting(i, 1));
        }
        int[] numbers = new int[all.size()];
        for (int i = 0; i < numbers.length; i++) {
            numbers[i] = all.get(i);
        }
        return numbers;
    }

    private static void addAll(List<Integer> list, int[] numbers) {
        for (int number : numbers) {
            list.add(number);
        }
    }
}
