import java.util.Arrays;

/**
 * A grammar gym: rules whose parts agree in features, a lexicon, sentences that are parsed in two
 * ways, made in order, spoiled and corrected with fewest changes, and levels by the rules that a
 * reading needs.
 */
public final class SentenceGym {
    /** None. */
    public static final int NONE = -1;

    private static final int MOST_WORDS = 9;
    private static final int MOST_RULES = 8;
    private static final int MOST_SAID = 6;
    private static final int LONGEST_MADE = 4;
    private static final int MOST_READINGS = 1000000;

    private static final int SENTENCE = 0;
    private static final int CATEGORIES = 8;
    private static final int VALUES = 4;
    /** How many pairs there are of a value of the feature 0 and one of the feature 1. */
    private static final int PAIRS = VALUES * VALUES;
    /** How many kinds of parts there are: a category and a pair of values. */
    private static final int KINDS = CATEGORIES * PAIRS;
    /** How many spans of one word or more a full row has. */
    private static final int SPANS = MOST_SAID * (MOST_SAID + 1) / 2;

    private static final int VALUE_OF_FIRST = 0;
    private static final int VALUE_OF_SECOND = 1;
    private static final int VALUES_AGREE = 2;

    private final Grammar grammar;
    private final int[] row;
    private int rowLength;
    private final int[] trial;
    private final PartSets partSets;
    private final CountChart countChart;
    private final PlainCounter plainCounter;

    /** No words, no rules; the row of words is empty. */
    public SentenceGym() {
        grammar = new Grammar();
        row = new int[MOST_SAID];
        rowLength = 0;
        trial = new int[MOST_SAID];
        partSets = new PartSets();
        countChart = new CountChart();
        plainCounter = new PlainCounter();
    }

    // ---- words and rules

    /**
     * Adds a word.
     *
     * @param category 0 to 7
     * @param first 0 to 3: the value of the feature 0
     * @param second 0 to 3: the value of the feature 1
     * @return its number
     * @throws IllegalArgumentException if an argument is out of range
     * @throws IllegalStateException if there are 9 words
     */
    public int addWord(int category, int first, int second)
            throws IllegalArgumentException, IllegalStateException {
        if (isNoKind(category, first, second)) {
            throw new IllegalArgumentException("no such category or value");
        }
        if (grammar.words >= MOST_WORDS) {
            throw new IllegalStateException("there are 9 words");
        }
        int word = grammar.words;
        grammar.words++;
        grammar.defineWord(word, category, pairOf(first, second));
        return word;
    }

    /**
     * Changes a word.
     *
     * @param word a word
     * @param category 0 to 7
     * @param first 0 to 3
     * @param second 0 to 3
     * @return the category before
     * @throws IndexOutOfBoundsException if there is no such word
     * @throws IllegalArgumentException if another argument is out of range
     */
    public int setWord(int word, int category, int first, int second)
            throws IndexOutOfBoundsException, IllegalArgumentException {
        if (isOutside(word, grammar.words)) {
            throw new IndexOutOfBoundsException("no such word");
        }
        if (isNoKind(category, first, second)) {
            throw new IllegalArgumentException("no such category or value");
        }
        int before = grammar.wordCategory[word];
        grammar.defineWord(word, category, pairOf(first, second));
        return before;
    }

    /**
     * Adds a rule.
     *
     * @param made 0 to 7: the category that it makes
     * @param first 0 to 7
     * @param second 0 to 7
     * @param modes 10 times the mode of the feature 0, and that of the feature 1, added; modes are
     *     0 to 3
     * @return its number
     * @throws IllegalArgumentException if an argument is out of range
     * @throws IllegalStateException if there are 8 rules
     */
    public int addRule(int made, int first, int second, int modes)
            throws IllegalArgumentException, IllegalStateException {
        if (isOutside(made, CATEGORIES) || isOutside(first, CATEGORIES)
                || isOutside(second, CATEGORIES) || isNoDigitPair(modes)) {
            throw new IllegalArgumentException("no such category or mode");
        }
        if (grammar.rules >= MOST_RULES) {
            throw new IllegalStateException("there are 8 rules");
        }
        int rule = grammar.rules;
        grammar.rules++;
        grammar.defineRule(rule, made, first, second, modes);
        return rule;
    }

    /**
     * Takes the latest rule away.
     *
     * @return how many rules there are then
     * @throws IllegalStateException if there is none
     */
    public int dropRule() throws IllegalStateException {
        if (grammar.rules == 0) {
            throw new IllegalStateException("there is no rule");
        }
        grammar.rules--;
        return grammar.rules;
    }

    // ---- the row of words

    /**
     * Puts a word at the end of the row.
     *
     * @param word a word
     * @return how many words the row has then
     * @throws IndexOutOfBoundsException if there is no such word
     * @throws IllegalStateException if the row has 6 words
     */
    public int say(int word) throws IndexOutOfBoundsException, IllegalStateException {
        if (isOutside(word, grammar.words)) {
            throw new IndexOutOfBoundsException("no such word");
        }
        if (rowLength >= MOST_SAID) {
            throw new IllegalStateException("the row has 6 words");
        }
        row[rowLength] = word;
        rowLength++;
        return rowLength;
    }

    /**
     * Puts another word in place of one of the row.
     *
     * @param place from 0
     * @param word a word
     * @return the word before
     * @throws IndexOutOfBoundsException if there is no such place or word
     */
    public int change(int place, int word) throws IndexOutOfBoundsException {
        if (isOutside(place, rowLength) || isOutside(word, grammar.words)) {
            throw new IndexOutOfBoundsException("no such place or word");
        }
        int before = row[place];
        row[place] = word;
        return before;
    }

    /**
     * Empties the row.
     *
     * @return how many words it had
     */
    public int hush() {
        int before = rowLength;
        rowLength = 0;
        return before;
    }

    /**
     * Tells the length of the row.
     *
     * @return how many words the row has
     */
    public int said() {
        return rowLength;
    }

    /**
     * Returns a word of the row.
     *
     * @param place from 0
     * @return the word
     * @throws IndexOutOfBoundsException if there is no such place
     */
    public int wordAt(int place) throws IndexOutOfBoundsException {
        if (isOutside(place, rowLength)) {
            throw new IndexOutOfBoundsException("no such place");
        }
        return row[place];
    }

    // ---- parsing

    /**
     * Counts the readings of the row as a sentence, in a chart of all its spans.
     *
     * @return how many readings the row has as the category 0; 0 for an empty row
     */
    public int readings() {
        return rowLength == 0 ? 0 : countReadings(0, rowLength, SENTENCE);
    }

    /**
     * Returns the same, by plain recursion over rules and places.
     *
     * @return how many readings the row has as the category 0; 0 for an empty row
     */
    public int readingsPlainly() {
        return rowLength == 0 ? 0 : told(plainCounter.countRow(grammar, row, rowLength, SENTENCE));
    }

    /**
     * Returns how many readings some words of the row have as a category.
     *
     * @param from the place of the first one
     * @param to the place behind the last one
     * @param category 0 to 7
     * @return how many
     * @throws IndexOutOfBoundsException if from is below 0, to is not above from, or above said(),
     *     or there is no such category
     */
    public int readingsOf(int from, int to, int category) throws IndexOutOfBoundsException {
        if (isNoSpan(from, to) || isOutside(category, CATEGORIES)) {
            throw new IndexOutOfBoundsException("no such words or category");
        }
        return countReadings(from, to, category);
    }

    /**
     * Tells whether some words of the row have a reading as a category with certain values.
     *
     * @param from the place of the first one
     * @param to the place behind the last one
     * @param category 0 to 7
     * @param values 10 times the value of the feature 0, and that of the feature 1, added; values
     *     are 0 to 3
     * @return whether they have one whose values are just these
     * @throws IndexOutOfBoundsException if from is below 0, to is not above from, or above said(),
     *     or there is no such category
     * @throws IllegalArgumentException if values is out of range
     */
    public boolean has(int from, int to, int category, int values)
            throws IndexOutOfBoundsException, IllegalArgumentException {
        if (isNoSpan(from, to) || isOutside(category, CATEGORIES)) {
            throw new IndexOutOfBoundsException("no such words or category");
        }
        if (isNoDigitPair(values)) {
            throw new IllegalArgumentException("no such values");
        }
        partSets.parse(grammar, row, rowLength, grammar.rules);
        int pairs = partSets.pairsOf(from, to, category);
        return hasPair(pairs, pairOf(values / 10, values % 10));
    }

    /**
     * Returns the level of the row.
     *
     * @return the level; NONE if the row is no sentence
     */
    public int level() {
        for (int rules = 0; rules <= grammar.rules; rules++) {
            partSets.parse(grammar, row, rowLength, rules);
            if (partSets.holdsSentence(rowLength)) {
                return rules;
            }
        }
        return NONE;
    }

    // ---- making, spoiling, correcting

    /**
     * Returns how many sentences of some length there are.
     *
     * @param length 1 to 4
     * @return how many rows of so many words are sentences
     * @throws IllegalArgumentException if length is out of range
     */
    public int sentences(int length) throws IllegalArgumentException {
        if (isNoLength(length)) {
            throw new IllegalArgumentException("no such length");
        }
        return makeSentences(length, rowsOfLength(length));
    }

    /**
     * Returns a sentence of some length.
     *
     * @param length 1 to 4
     * @param k from 0, in the order of the first word, then the second one, and so on
     * @return its words as digits behind a 9: 902 for the words 0 and 2; NONE if there are not so
     *     many sentences
     * @throws IllegalArgumentException if length is out of range, or k is below 0
     */
    public int sentence(int length, int k) throws IllegalArgumentException {
        if (isNoLength(length) || k < 0) {
            throw new IllegalArgumentException("no such length or number");
        }
        return makeSentences(length, k) > k ? trialAsDigits(length) : NONE;
    }

    /**
     * Returns the share of the sentences among all rows of words of some length.
     *
     * @param length 1 to 4
     * @return the number of the sentences, as a float, divided by the number of the rows, as a
     *     float; 0 if there are no words
     * @throws IllegalArgumentException if length is out of range
     */
    public float share(int length) throws IllegalArgumentException {
        if (isNoLength(length)) {
            throw new IllegalArgumentException("no such length");
        }
        int rows = rowsOfLength(length);
        if (rows == 0) {
            return 0;
        }
        return (float) makeSentences(length, rows) / (float) rows;
    }

    /**
     * Returns a word that spoils the row, put in place of one of its words.
     *
     * @param place from 0
     * @return the lowest word with which the row is no sentence, though it has the same category as
     *     the word that is there; NONE if there is none, or the row is no sentence
     * @throws IndexOutOfBoundsException if there is no such place
     */
    public int spoil(int place) throws IndexOutOfBoundsException {
        if (isOutside(place, rowLength)) {
            throw new IndexOutOfBoundsException("no such place");
        }
        if (!isSentenceFreeAt(NONE, NONE)) {
            return NONE;
        }
        int category = grammar.wordCategory[row[place]];
        for (int word = 0; word < grammar.words; word++) {
            if (grammar.wordCategory[word] == category && !isSentenceWith(place, word)) {
                return word;
            }
        }
        return NONE;
    }

    /**
     * Returns how few words have to be changed for the row to be a sentence.
     *
     * @return up to 2; 0 if it is one, NONE if 2 do not do, or the row is empty
     */
    public int changes() {
        if (isSentenceFreeAt(NONE, NONE)) {
            return 0;
        }
        for (int place = 0; place < rowLength; place++) {
            if (isSentenceFreeAt(place, NONE)) {
                return 1;
            }
        }
        for (int place = 0; place < rowLength; place++) {
            for (int other = place + 1; other < rowLength; other++) {
                if (isSentenceFreeAt(place, other)) {
                    return 2;
                }
            }
        }
        return NONE;
    }

    /**
     * Returns a correction of the row: one of its words changed to another one, with which it is a
     * sentence (also if it is one already).
     *
     * @param k from 0, in the order of places, then of words
     * @return 10 times the place, and the new word, added; NONE if there are not so many
     *     corrections
     * @throws IndexOutOfBoundsException if k is below 0
     */
    public int correction(int k) throws IndexOutOfBoundsException {
        if (k < 0) {
            throw new IndexOutOfBoundsException("no such correction");
        }
        int ahead = k;
        for (int place = 0; place < rowLength; place++) {
            for (int word = 0; word < grammar.words; word++) {
                if (word != row[place] && isSentenceWith(place, word)) {
                    if (ahead == 0) {
                        return 10 * place + word;
                    }
                    ahead--;
                }
            }
        }
        return NONE;
    }

    // ---- ranges

    private static boolean isOutside(int number, int bound) {
        return number < 0 || number >= bound;
    }

    private static boolean isNoKind(int category, int first, int second) {
        return isOutside(category, CATEGORIES) || isOutside(first, VALUES)
                || isOutside(second, VALUES);
    }

    private static boolean isNoDigitPair(int digits) {
        return digits < 0 || digits / 10 >= VALUES || digits % 10 >= VALUES;
    }

    private static boolean isNoLength(int length) {
        return length < 1 || length > LONGEST_MADE;
    }

    private boolean isNoSpan(int from, int to) {
        return from < 0 || to <= from || to > rowLength;
    }

    // ---- numbers

    private static int pairOf(int first, int second) {
        return first * VALUES + second;
    }

    private static boolean hasPair(int pairs, int pair) {
        return (pairs >> pair & 1) != 0;
    }

    /** The number of a span among all spans, for 0 <= from < to <= MOST_SAID. */
    private static int spanOf(int from, int to) {
        return to * (to - 1) / 2 + from;
    }

    private static int told(int readings) {
        return readings > MOST_READINGS ? MOST_READINGS : readings;
    }

    private static int countOf(int[] counts, int category) {
        int count = 0;
        for (int pair = 0; pair < PAIRS; pair++) {
            count += counts[category * PAIRS + pair];
        }
        return count;
    }

    // ---- helpers of the calls

    private int countReadings(int from, int to, int category) {
        countChart.fill(grammar, row, rowLength);
        return told(countChart.countSpan(from, to, category));
    }

    private boolean isSentenceWith(int place, int word) {
        System.arraycopy(row, 0, trial, 0, rowLength);
        trial[place] = word;
        partSets.parse(grammar, trial, rowLength, grammar.rules);
        return partSets.holdsSentence(rowLength);
    }

    /**
     * Whether the row can be a sentence if any words may stand at two places (NONE: no place). One
     * parse tells it for all those words at once, as a reading uses the word of a place only once.
     */
    private boolean isSentenceFreeAt(int place, int other) {
        for (int at = 0; at < rowLength; at++) {
            if (at == place || at == other) {
                partSets.putAnyWord(grammar, at);
            } else {
                partSets.putWord(grammar, at, row[at]);
            }
            partSets.joinUpTo(grammar, at + 1, grammar.rules);
        }
        return partSets.holdsSentence(rowLength);
    }

    private int rowsOfLength(int length) {
        int rows = 1;
        for (int place = 0; place < length; place++) {
            rows *= grammar.words;
        }
        return rows;
    }

    /**
     * Goes through the rows of some length in their order, until more sentences than some number
     * are found, and leaves the last row looked at in the trial. Returns how many were found.
     */
    private int makeSentences(int length, int enough) {
        int found = 0;
        int rows = rowsOfLength(length);
        int changed = 0;
        clearTrial();
        for (int count = 0; count < rows; count++) {
            // what ends ahead of the first changed word is still the same
            for (int place = changed; place < length; place++) {
                partSets.putWord(grammar, place, trial[place]);
                partSets.joinUpTo(grammar, place + 1, grammar.rules);
            }
            if (partSets.holdsSentence(length)) {
                found++;
                if (found > enough) {
                    return found;
                }
            }
            changed = nextTrial(length);
        }
        return found;
    }

    private void clearTrial() {
        for (int place = 0; place < MOST_SAID; place++) {
            trial[place] = 0;
        }
    }

    /** Makes the trial the next row of some length. Returns the first place that changed. */
    private int nextTrial(int length) {
        for (int place = length - 1; place >= 0; place--) {
            trial[place]++;
            if (trial[place] < grammar.words) {
                return place;
            }
            trial[place] = 0;
        }
        return 0;
    }

    private int trialAsDigits(int length) {
        int digits = 9;
        for (int place = 0; place < length; place++) {
            digits = 10 * digits + trial[place];
        }
        return digits;
    }

    /** The words and the rules. */
    private static final class Grammar {
        private int words = 0;
        private final int[] wordCategory = new int[MOST_WORDS];
        private final int[] wordPair = new int[MOST_WORDS];
        private int rules = 0;
        private final int[] made = new int[MOST_RULES];
        private final int[] first = new int[MOST_RULES];
        private final int[] second = new int[MOST_RULES];
        /** For each rule: the pair of values that it makes of two pairs; NONE if it allows none. */
        private final int[][] pairMade = new int[MOST_RULES][PAIRS * PAIRS];

        private void defineWord(int word, int category, int pair) {
            wordCategory[word] = category;
            wordPair[word] = pair;
        }

        private void defineRule(int rule, int category, int one, int other, int modes) {
            made[rule] = category;
            first[rule] = one;
            second[rule] = other;
            for (int pairs = 0; pairs < PAIRS * PAIRS; pairs++) {
                pairMade[rule][pairs] = joinedPair(modes, pairs / PAIRS, pairs % PAIRS);
            }
        }

        private static int joinedPair(int modes, int one, int other) {
            int high = joinedValue(modes / 10, one / VALUES, other / VALUES);
            int low = joinedValue(modes % 10, one % VALUES, other % VALUES);
            return high == NONE || low == NONE ? NONE : pairOf(high, low);
        }

        /** The value that a feature gets from those of both parts; NONE if they do not agree. */
        private static int joinedValue(int mode, int one, int other) {
            switch (mode) {
                case VALUE_OF_FIRST:
                    return one;
                case VALUE_OF_SECOND:
                    return other;
                case VALUES_AGREE:
                    if (one == other || other == 0) {
                        return one;
                    }
                    return one == 0 ? other : NONE;
                default:
                    return 0;
            }
        }

        /** The set of pairs that a rule makes of a pair of one set and a pair of another. */
        private int pairsMade(int rule, int ones, int others) {
            int pairs = 0;
            for (int one = 0; one < PAIRS; one++) {
                if (!hasPair(ones, one)) {
                    continue;
                }
                for (int other = 0; other < PAIRS; other++) {
                    int pair = pairMade[rule][one * PAIRS + other];
                    if (pair != NONE && hasPair(others, other)) {
                        pairs |= 1 << pair;
                    }
                }
            }
            return pairs;
        }

        /** Sets the counts, by kind, of the readings of a single word. */
        private void countWord(int word, int[] counts) {
            counts[wordCategory[word] * PAIRS + wordPair[word]] = 1;
        }

        /** Adds to the counts of a whole, by kind, what all rules make of its two parts. */
        private void addJoined(int[] ones, int[] others, int[] wholes) {
            for (int rule = 0; rule < rules; rule++) {
                for (int one = 0; one < PAIRS; one++) {
                    int count = ones[first[rule] * PAIRS + one];
                    if (count != 0) {
                        addJoinedWith(rule, one, count, others, wholes);
                    }
                }
            }
        }

        private void addJoinedWith(int rule, int one, int count, int[] others, int[] wholes) {
            for (int other = 0; other < PAIRS; other++) {
                int pair = pairMade[rule][one * PAIRS + other];
                if (pair != NONE) {
                    int otherCount = others[second[rule] * PAIRS + other];
                    wholes[made[rule] * PAIRS + pair] += count * otherCount;
                }
            }
        }
    }

    /**
     * Which parts the spans of a row can be: for each span and category a set of pairs of values,
     * with a bit for each pair.
     */
    private static final class PartSets {
        private final int[] pairs = new int[SPANS * CATEGORIES];

        private int pairsOf(int from, int to, int category) {
            return pairs[spanOf(from, to) * CATEGORIES + category];
        }

        private boolean holdsSentence(int length) {
            return length > 0 && pairsOf(0, length, SENTENCE) != 0;
        }

        private void parse(Grammar grammar, int[] words, int length, int rules) {
            for (int place = 0; place < length; place++) {
                putWord(grammar, place, words[place]);
                joinUpTo(grammar, place + 1, rules);
            }
        }

        private void putWord(Grammar grammar, int place, int word) {
            clearSpan(place, place + 1);
            allowWord(grammar, place, word);
        }

        private void putAnyWord(Grammar grammar, int place) {
            clearSpan(place, place + 1);
            for (int word = 0; word < grammar.words; word++) {
                allowWord(grammar, place, word);
            }
        }

        private void allowWord(Grammar grammar, int place, int word) {
            int span = spanOf(place, place + 1);
            pairs[span * CATEGORIES + grammar.wordCategory[word]] |= 1 << grammar.wordPair[word];
        }

        private void clearSpan(int from, int to) {
            int start = spanOf(from, to) * CATEGORIES;
            for (int category = 0; category < CATEGORIES; category++) {
                pairs[start + category] = 0;
            }
        }

        /** Fills the spans of two words or more that end at a place, by the first few rules. */
        private void joinUpTo(Grammar grammar, int to, int rules) {
            for (int from = to - 2; from >= 0; from--) {
                clearSpan(from, to);
                int whole = spanOf(from, to) * CATEGORIES;
                for (int middle = from + 1; middle < to; middle++) {
                    int one = spanOf(from, middle) * CATEGORIES;
                    int other = spanOf(middle, to) * CATEGORIES;
                    join(grammar, rules, one, other, whole);
                }
            }
        }

        private void join(Grammar grammar, int rules, int one, int other, int whole) {
            for (int rule = 0; rule < rules; rule++) {
                int ones = pairs[one + grammar.first[rule]];
                int others = pairs[other + grammar.second[rule]];
                if (ones != 0 && others != 0) {
                    int joined = grammar.pairsMade(rule, ones, others);
                    pairs[whole + grammar.made[rule]] |= joined;
                }
            }
        }
    }

    /**
     * How many readings the spans of a row have as each kind of part. All the readings of six words
     * are at most 42 * 8^5, so an int holds their number.
     */
    private static final class CountChart {
        private final int[][] counts = new int[SPANS][KINDS];

        private int countSpan(int from, int to, int category) {
            return countOf(counts[spanOf(from, to)], category);
        }

        private void fill(Grammar grammar, int[] words, int length) {
            for (int to = 1; to <= length; to++) {
                for (int from = to - 1; from >= 0; from--) {
                    fillSpan(grammar, words, from, to);
                }
            }
        }

        private void fillSpan(Grammar grammar, int[] words, int from, int to) {
            int[] whole = counts[spanOf(from, to)];
            Arrays.fill(whole, 0);
            if (to == from + 1) {
                grammar.countWord(words[from], whole);
            }
            for (int middle = from + 1; middle < to; middle++) {
                int[] one = counts[spanOf(from, middle)];
                int[] other = counts[spanOf(middle, to)];
                grammar.addJoined(one, other, whole);
            }
        }
    }

    /**
     * Counts readings by plain recursion: what was counted is not looked up again. Each depth has
     * its own two rows for the counts of the first and the second part, made once.
     */
    private static final class PlainCounter {
        private final int[][] counts = new int[2 * MOST_SAID + 1][KINDS];

        private int countRow(Grammar grammar, int[] words, int length, int category) {
            count(grammar, counts, words, 0, length, 0, 0);
            return countOf(counts[0], category);
        }

        private static void count(Grammar grammar, int[][] counts, int[] words, int from, int to,
                int depth, int into) {
            Arrays.fill(counts[into], 0);
            if (depth >= MOST_SAID) {
                return;
            }
            if (to == from + 1) {
                grammar.countWord(words[from], counts[into]);
            }
            int first = 2 * depth + 1;
            int second = first + 1;
            for (int middle = from + 1; middle < to; middle++) {
                count(grammar, counts, words, from, middle, depth + 1, first);
                count(grammar, counts, words, middle, to, depth + 1, second);
                grammar.addJoined(counts[first], counts[second], counts[into]);
            }
        }
    }
}
