import java.util.ArrayList;
import java.util.List;

/**
 * The document once more, for comparison: every reading is made as an object of its own, and every
 * row of words is tried.
 */
final class NaiveGym {
    /** What is left of a reading: its values, and its level. */
    private static final class Reading {
        final int first;
        final int second;
        final int level;

        Reading(int first, int second, int level) {
            this.first = first;
            this.second = second;
            this.level = level;
        }
    }

    final List<int[]> words = new ArrayList<>();
    final List<int[]> rules = new ArrayList<>();
    final List<Integer> row = new ArrayList<>();

    private static boolean in(int number, int low, int high) {
        return number >= low && number <= high;
    }

    private static boolean inDigits(int digits) {
        for (int one = 0; one <= 3; one++) {
            for (int other = 0; other <= 3; other++) {
                if (digits == 10 * one + other) {
                    return true;
                }
            }
        }
        return false;
    }

    private void needKind(int category, int first, int second) {
        if (!in(category, 0, 7) || !in(first, 0, 3) || !in(second, 0, 3)) {
            throw new IllegalArgumentException();
        }
    }

    private void needWord(int word) {
        if (!in(word, 0, words.size() - 1)) {
            throw new IndexOutOfBoundsException();
        }
    }

    private void needPlace(int place) {
        if (!in(place, 0, row.size() - 1)) {
            throw new IndexOutOfBoundsException();
        }
    }

    private void needSpan(int from, int to, int category) {
        if (from < 0 || to <= from || to > row.size() || !in(category, 0, 7)) {
            throw new IndexOutOfBoundsException();
        }
    }

    private void needLength(int length) {
        if (!in(length, 1, 4)) {
            throw new IllegalArgumentException();
        }
    }

    int addWord(int category, int first, int second) {
        needKind(category, first, second);
        if (words.size() == 9) {
            throw new IllegalStateException();
        }
        words.add(new int[] {category, first, second});
        return words.size() - 1;
    }

    int setWord(int word, int category, int first, int second) {
        needWord(word);
        needKind(category, first, second);
        return words.set(word, new int[] {category, first, second})[0];
    }

    int addRule(int made, int first, int second, int modes) {
        if (!in(made, 0, 7) || !in(first, 0, 7) || !in(second, 0, 7) || !inDigits(modes)) {
            throw new IllegalArgumentException();
        }
        if (rules.size() == 8) {
            throw new IllegalStateException();
        }
        rules.add(new int[] {made, first, second, modes});
        return rules.size() - 1;
    }

    int dropRule() {
        if (rules.isEmpty()) {
            throw new IllegalStateException();
        }
        rules.remove(rules.size() - 1);
        return rules.size();
    }

    int say(int word) {
        needWord(word);
        if (row.size() == 6) {
            throw new IllegalStateException();
        }
        row.add(word);
        return row.size();
    }

    int change(int place, int word) {
        needPlace(place);
        needWord(word);
        return row.set(place, word);
    }

    int hush() {
        int before = row.size();
        row.clear();
        return before;
    }

    int said() {
        return row.size();
    }

    int wordAt(int place) {
        needPlace(place);
        return row.get(place);
    }

    int readings() {
        return row.isEmpty() ? 0 : Math.min(1000000, all(row, 0).size());
    }

    int readingsOf(int from, int to, int category) {
        needSpan(from, to, category);
        return Math.min(1000000, all(row.subList(from, to), category).size());
    }

    boolean has(int from, int to, int category, int values) {
        needSpan(from, to, category);
        if (!inDigits(values)) {
            throw new IllegalArgumentException();
        }
        for (Reading reading : all(row.subList(from, to), category)) {
            if (10 * reading.first + reading.second == values) {
                return true;
            }
        }
        return false;
    }

    int level() {
        int least = -1;
        if (!row.isEmpty()) {
            for (Reading reading : all(row, 0)) {
                least = least < 0 ? reading.level : Math.min(least, reading.level);
            }
        }
        return least;
    }

    private List<Reading> all(List<Integer> some, int category) {
        List<Reading> readings = new ArrayList<>();
        if (some.size() == 1) {
            int[] word = words.get(some.get(0));
            if (word[0] == category) {
                readings.add(new Reading(word[1], word[2], 0));
            }
        }
        for (int middle = 1; middle < some.size(); middle++) {
            for (int rule = 0; rule < rules.size(); rule++) {
                int[] r = rules.get(rule);
                if (r[0] == category) {
                    List<Reading> ones = all(some.subList(0, middle), r[1]);
                    if (!ones.isEmpty()) {
                        join(rule, ones, all(some.subList(middle, some.size()), r[2]), readings);
                    }
                }
            }
        }
        return readings;
    }

    private void join(int rule, List<Reading> ones, List<Reading> others, List<Reading> into) {
        int modes = rules.get(rule)[3];
        for (Reading one : ones) {
            for (Reading other : others) {
                int first = value(modes / 10, one.first, other.first);
                int second = value(modes % 10, one.second, other.second);
                if (first >= 0 && second >= 0) {
                    int level = Math.max(rule + 1, Math.max(one.level, other.level));
                    into.add(new Reading(first, second, level));
                }
            }
        }
    }

    private static int value(int mode, int one, int other) {
        if (mode == 2) {
            boolean agree = one == other || one == 0 || other == 0;
            return agree ? Math.max(one, other) : -1;
        }
        return mode == 0 ? one : mode == 1 ? other : 0;
    }

    private boolean isSentence(List<Integer> some) {
        return !some.isEmpty() && !all(some, 0).isEmpty();
    }

    /** All sentences of some length, in order. */
    private List<List<Integer>> made(int length) {
        List<List<Integer>> made = new ArrayList<>();
        extend(new ArrayList<>(), length, made);
        return made;
    }

    private void extend(List<Integer> begun, int length, List<List<Integer>> made) {
        if (begun.size() == length) {
            if (isSentence(begun)) {
                made.add(begun);
            }
            return;
        }
        for (int word = 0; word < words.size(); word++) {
            List<Integer> longer = new ArrayList<>(begun);
            longer.add(word);
            extend(longer, length, made);
        }
    }

    int sentences(int length) {
        needLength(length);
        return made(length).size();
    }

    int sentence(int length, int k) {
        needLength(length);
        if (k < 0) {
            throw new IllegalArgumentException();
        }
        List<List<Integer>> made = made(length);
        if (k >= made.size()) {
            return -1;
        }
        StringBuilder digits = new StringBuilder("9");
        for (int word : made.get(k)) {
            digits.append(word);
        }
        return Integer.parseInt(digits.toString());
    }

    float share(int length) {
        needLength(length);
        double rows = Math.pow(words.size(), length);
        return words.isEmpty() ? 0 : (float) made(length).size() / (float) rows;
    }

    private List<Integer> with(List<Integer> some, int place, int word) {
        List<Integer> changed = new ArrayList<>(some);
        changed.set(place, word);
        return changed;
    }

    int spoil(int place) {
        needPlace(place);
        if (!isSentence(row)) {
            return -1;
        }
        for (int word = 0; word < words.size(); word++) {
            if (words.get(word)[0] == words.get(row.get(place))[0]
                    && !isSentence(with(row, place, word))) {
                return word;
            }
        }
        return -1;
    }

    int changes() {
        for (int most = 0; most <= 2; most++) {
            if (isSentenceAfter(row, most)) {
                return most;
            }
        }
        return -1;
    }

    private boolean isSentenceAfter(List<Integer> some, int most) {
        if (isSentence(some)) {
            return true;
        }
        for (int place = 0; place < some.size() && most > 0; place++) {
            for (int word = 0; word < words.size(); word++) {
                if (isSentenceAfter(with(some, place, word), most - 1)) {
                    return true;
                }
            }
        }
        return false;
    }

    int correction(int k) {
        if (k < 0) {
            throw new IndexOutOfBoundsException();
        }
        List<Integer> found = new ArrayList<>();
        for (int place = 0; place < row.size(); place++) {
            for (int word = 0; word < words.size(); word++) {
                if (word != row.get(place) && isSentence(with(row, place, word))) {
                    found.add(10 * place + word);
                }
            }
        }
        return k < found.size() ? found.get(k) : -1;
    }
}
