/** What the tests of the document's boundary cases share. */
abstract class Edges {
    static final Class<IllegalArgumentException> ARGUMENT = IllegalArgumentException.class;
    static final Class<IllegalStateException> STATE = IllegalStateException.class;
    static final Class<IndexOutOfBoundsException> INDEX = IndexOutOfBoundsException.class;
    static final int NONE = -1;
    static final int LARGE = Integer.MAX_VALUE;
    static final int SMALL = Integer.MIN_VALUE;

    final Check check;

    Edges(String title) {
        check = new Check(title);
    }

    /** Numbers outside of a range: its neighbours first, then the ends of int. */
    static int[] outside(int low, int high) {
        return new int[] {low - 1, high + 1, SMALL, LARGE};
    }

    static boolean isDigitPair(int digits) {
        return digits >= 0 && digits <= 33 && digits % 10 <= 3;
    }

    /** Digit pairs that are no pair of numbers from 0 to 3. */
    static int[] wrongDigitPairs() {
        return new int[] {-1, 4, 9, 14, 19, 24, 29, 34, 39, 40, 43, 99, 100, 103, 110, 130, 133, 300,
            333, -3, -9, -10, -11, -30, -33, SMALL, LARGE};
    }

    /** Nouns 0 (value 1) and 1 (value 2), verbs 2 (value 1) and 3 (any); noun and verb agree. */
    static SentenceGym nounsAndVerbs() {
        SentenceGym gym = new SentenceGym();
        gym.addWord(1, 1, 0);
        gym.addWord(1, 2, 0);
        gym.addWord(2, 1, 3);
        gym.addWord(2, 0, 0);
        gym.addRule(0, 1, 2, 20);
        return gym;
    }

    /** Some words of one category with the values 0 and 0. */
    static SentenceGym alikeWords(int words, int category) {
        SentenceGym gym = new SentenceGym();
        for (int word = 0; word < words; word++) {
            gym.addWord(category, 0, 0);
        }
        return gym;
    }

    /** Some rules that make the category 0 of any two parts of it. */
    static SentenceGym alikeRules(SentenceGym gym, int rules) {
        for (int rule = 0; rule < rules; rule++) {
            gym.addRule(0, 0, 0, 33);
        }
        return gym;
    }

    static SentenceGym say(SentenceGym gym, int... words) {
        gym.hush();
        for (int word : words) {
            gym.say(word);
        }
        return gym;
    }

    /** The row as digits behind a 9. */
    static int row(SentenceGym gym) {
        int digits = 9;
        for (int place = 0; place < gym.said(); place++) {
            digits = 10 * digits + gym.wordAt(place);
        }
        return digits;
    }

    void bothWays(String what, SentenceGym gym, int due) {
        check.equal(what + ": readings", gym.readings(), due);
        check.equal(what + ": readingsPlainly", gym.readingsPlainly(), due);
    }
}
