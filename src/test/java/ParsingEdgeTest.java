/** Each sentence of the promises 11 to 15 that names a boundary case, with its edges. */
public final class ParsingEdgeTest extends Edges {
    private ParsingEdgeTest() {
        super("ParsingEdgeTest");
    }

    public static void main(String[] args) {
        ParsingEdgeTest test = new ParsingEdgeTest();
        test.anEmptyRowHasNoReadings();
        test.aSingleWordHasOneReadingOrNone();
        test.withoutRulesOnlySingleWordsAreRead();
        test.aFullRowIsRead();
        test.readingsPlainlyTellsTheSame();
        test.readingsOfThrowsForItsPlaces();
        test.readingsOfThrowsForItsCategory();
        test.readingsOfGoesFromTheFirstToBehindTheLast();
        test.readingsOfASingleWord();
        test.readingsOfDoesNotLookBeyond();
        test.hasThrowsForItsPlacesOrCategory();
        test.hasThrowsForItsValues();
        test.hasThrowsForItsPlacesFirst();
        test.hasWantsJustTheseValues();
        test.hasFindsAnyOfSeveralReadings();
        test.hasFindsEachThatOneRuleMakes();
        test.hasFindsTheOneThatAgrees();
        test.hasGoesFromTheFirstToBehindTheLast();
        test.theLevelOfNoSentenceIsNone();
        test.levelsGoFrom0To8();
        test.check.end();
    }

    private void anEmptyRowHasNoReadings() {
        check.about("11, 12 readings, readingsPlainly: 0 for an empty row");
        bothWays("a new object", new SentenceGym(), 0);
        bothWays("words of the category 0, and rules", alikeRules(alikeWords(9, 0), 8), 0);
        SentenceGym gym = alikeRules(say(alikeWords(1, 0), 0, 0), 1);
        bothWays("before", gym, 1);
        gym.hush();
        bothWays("hushed", gym, 0);
    }

    private void aSingleWordHasOneReadingOrNone() {
        check.about("11, 12 readings, readingsPlainly: of a single word");
        bothWays("a word of 0", alikeRules(say(alikeWords(1, 0), 0), 8), 1);
        bothWays("a word of 1", alikeRules(say(alikeWords(1, 1), 0), 8), 0);
        bothWays("the ninth word", say(alikeWords(9, 0), 8), 1);
    }

    private void withoutRulesOnlySingleWordsAreRead() {
        check.about("11, 12 readings, readingsPlainly: no rules");
        SentenceGym gym = alikeWords(1, 0);
        for (int length = 1; length <= 6; length++) {
            gym.say(0);
            bothWays(length + " words", gym, length == 1 ? 1 : 0);
            check.equal("readingsOf", gym.readingsOf(0, length, 0), length == 1 ? 1 : 0);
        }
    }

    private void aFullRowIsRead() {
        check.about("11, 12 readings, readingsPlainly: of 6 words, by 8 rules");
        SentenceGym gym = new SentenceGym();
        for (int word = 0; word < 9; word++) {
            gym.addWord(word % 7 + 1, 0, 0);
        }
        for (int rule = 0; rule < 5; rule++) {
            gym.addRule(rule == 4 ? 0 : 7, rule == 0 ? 1 : 7, rule + 2, 33);
        }
        say(gym, 0, 1, 2, 3, 4, 5);
        bothWays("from the left, rule by rule", gym, 1);
        gym.addRule(7, 1, 2, 33);
        gym.addRule(0, 7, 6, 33);
        gym.addRule(0, 7, 5, 33);
        bothWays("by all 8 rules", gym, 4);
        check.equal("level", gym.level(), 5);
        gym.change(5, 4);
        bothWays("the last word read by the last rule", gym, 2);
        check.equal("level by the last rule", gym.level(), 8);
        gym.change(5, 3);
        bothWays("a last word that no rule takes", gym, 0);
    }

    private void readingsPlainlyTellsTheSame() {
        check.about("12 readingsPlainly: the same");
        int[][] rows = {{}, {0}, {3}, {0, 2}, {1, 2}, {2, 0}, {0, 1, 2}, {1, 0, 0, 3}, {0, 1, 2, 3},
            {0, 0, 0, 0, 2}, {1, 1, 1, 1, 1, 3}, {0, 0, 1, 0, 0, 2}, {2, 2, 2, 2, 2, 2}};
        int[] due = {0, 0, 0, 1, 0, 0, 1, 8, 2, 40, 224, 198, 0};
        for (int i = 0; i < rows.length; i++) {
            SentenceGym gym = nounsAndVerbs();
            gym.addRule(1, 1, 1, 2);
            gym.addRule(1, 1, 1, 10);
            gym.addRule(2, 2, 2, 33);
            say(gym, rows[i]);
            bothWays("row " + i, gym, due[i]);
        }
    }

    private void readingsOfThrowsForItsPlaces() {
        check.about("13 readingsOf: IndexOutOfBoundsException if from is below 0, to is not above from, or above said()");
        for (int length = 0; length <= 6; length++) {
            SentenceGym gym = alikeWords(1, 0);
            for (int place = 0; place < length; place++) {
                gym.say(0);
            }
            for (int from = -2; from <= 8; from++) {
                for (int to = -2; to <= 8; to++) {
                    int first = from;
                    int behind = to;
                    if (from >= 0 && to > from && to <= length) {
                        check.equal(from + " to " + to + " of " + length, gym.readingsOf(from, to, 0), to == from + 1 ? 1 : 0);
                    } else {
                        check.throwsJust(from + " to " + to + " of " + length, INDEX, () -> gym.readingsOf(first, behind, 0));
                    }
                }
            }
        }
        SentenceGym gym = say(alikeWords(1, 0), 0, 0);
        int[][] wide = {{SMALL, 1}, {SMALL, SMALL}, {0, LARGE}, {1, SMALL}, {LARGE, LARGE}, {LARGE, SMALL}, {SMALL, LARGE}, {LARGE, 2}};
        for (int[] span : wide) {
            check.throwsJust(span[0] + " to " + span[1], INDEX, () -> gym.readingsOf(span[0], span[1], 0));
        }
    }

    private void readingsOfThrowsForItsCategory() {
        check.about("13 readingsOf: IndexOutOfBoundsException if there is no such category");
        SentenceGym gym = say(alikeWords(1, 7), 0);
        for (int wrong : outside(0, 7)) {
            check.throwsJust("category " + wrong, INDEX, () -> gym.readingsOf(0, 1, wrong));
            check.throwsJust("and places", INDEX, () -> gym.readingsOf(1, 1, wrong));
        }
        check.equal("category 0", gym.readingsOf(0, 1, 0), 0);
        check.equal("category 7", gym.readingsOf(0, 1, 7), 1);
    }

    private void readingsOfGoesFromTheFirstToBehindTheLast() {
        check.about("13 readingsOf: from the place of the first one to the place behind the last one");
        SentenceGym gym = alikeRules(alikeWords(1, 0), 1);
        say(gym, 0, 0, 0, 0, 0, 0);
        int[] trees = {1, 1, 2, 5, 14, 42};
        for (int from = 0; from < 6; from++) {
            for (int to = from + 1; to <= 6; to++) {
                check.equal(from + " to " + to, gym.readingsOf(from, to, 0), trees[to - from - 1]);
            }
        }
    }

    private void readingsOfASingleWord() {
        check.about("13 readingsOf: of a single word");
        SentenceGym gym = say(nounsAndVerbs(), 2, 0, 3, 1, 2, 1);
        int[] due = {2, 1, 2, 1, 2, 1};
        for (int place = 0; place < 6; place++) {
            for (int category = 0; category <= 7; category++) {
                check.equal("place " + place + " as " + category, gym.readingsOf(place, place + 1, category),
                        category == due[place] ? 1 : 0);
            }
        }
    }

    private void readingsOfDoesNotLookBeyond() {
        check.about("13 readingsOf: some words of the row");
        SentenceGym gym = say(nounsAndVerbs(), 0, 2, 1, 3);
        check.equal("the first two", gym.readingsOf(0, 2, 0), 1);
        check.equal("the two between", gym.readingsOf(1, 3, 0), 0);
        check.equal("the last two", gym.readingsOf(2, 4, 0), 1);
        check.equal("all", gym.readingsOf(0, 4, 0), 0);
        gym.change(3, 2);
        check.equal("the last two, changed", gym.readingsOf(2, 4, 0), 0);
        check.equal("the first two still", gym.readingsOf(0, 2, 0), 1);
    }

    private void hasThrowsForItsPlacesOrCategory() {
        check.about("14 has: IndexOutOfBoundsException if from is below 0, to is not above from, or above said(), "
                + "or there is no such category");
        for (int length = 0; length <= 6; length++) {
            SentenceGym gym = alikeWords(1, 0);
            for (int place = 0; place < length; place++) {
                gym.say(0);
            }
            for (int from = -1; from <= 7; from++) {
                for (int to = -1; to <= 7; to++) {
                    int first = from;
                    int behind = to;
                    if (from >= 0 && to > from && to <= length) {
                        check.equal(from + " to " + to + " of " + length, gym.has(from, to, 0, 0) ? 1 : 0, to == from + 1 ? 1 : 0);
                    } else {
                        check.throwsJust(from + " to " + to + " of " + length, INDEX, () -> gym.has(first, behind, 0, 0) ? 1 : 0);
                    }
                }
            }
        }
        SentenceGym gym = say(alikeWords(1, 7), 0);
        for (int wrong : outside(0, 7)) {
            check.throwsJust("category " + wrong, INDEX, () -> gym.has(0, 1, wrong, 0) ? 1 : 0);
        }
        check.throwsJust("from small", INDEX, () -> gym.has(SMALL, 1, 7, 0) ? 1 : 0);
        check.throwsJust("to large", INDEX, () -> gym.has(0, LARGE, 7, 0) ? 1 : 0);
        check.throwsJust("to small", INDEX, () -> gym.has(0, SMALL, 7, 0) ? 1 : 0);
        check.isFalse("category 0", gym.has(0, 1, 0, 0));
        check.isTrue("category 7", gym.has(0, 1, 7, 0));
    }

    private void hasThrowsForItsValues() {
        check.about("14 has: IllegalArgumentException if values is out of range");
        SentenceGym gym = new SentenceGym();
        gym.addWord(0, 3, 3);
        say(gym, 0);
        for (int wrong : wrongDigitPairs()) {
            check.throwsJust("values " + wrong, ARGUMENT, () -> gym.has(0, 1, 0, wrong) ? 1 : 0);
            check.throwsJust("of a category that is not there", ARGUMENT, () -> gym.has(0, 1, 1, wrong) ? 1 : 0);
        }
        for (int values = -40; values <= 140; values++) {
            int pair = values;
            if (isDigitPair(values)) {
                check.equal("values " + values, gym.has(0, 1, 0, values) ? 1 : 0, values == 33 ? 1 : 0);
            } else {
                check.throwsJust("values " + values, ARGUMENT, () -> gym.has(0, 1, 0, pair) ? 1 : 0);
            }
        }
    }

    private void hasThrowsForItsPlacesFirst() {
        check.about("14 has: IndexOutOfBoundsException ahead of IllegalArgumentException");
        SentenceGym gym = say(alikeWords(1, 0), 0, 0);
        for (int wrong : wrongDigitPairs()) {
            check.throwsJust("from", INDEX, () -> gym.has(-1, 1, 0, wrong) ? 1 : 0);
            check.throwsJust("to at from", INDEX, () -> gym.has(1, 1, 0, wrong) ? 1 : 0);
            check.throwsJust("to above said()", INDEX, () -> gym.has(0, 3, 0, wrong) ? 1 : 0);
            check.throwsJust("category -1", INDEX, () -> gym.has(0, 1, -1, wrong) ? 1 : 0);
            check.throwsJust("category 8", INDEX, () -> gym.has(0, 1, 8, wrong) ? 1 : 0);
        }
        SentenceGym none = new SentenceGym();
        check.throwsJust("of an empty row", INDEX, () -> none.has(0, 1, 0, 4) ? 1 : 0);
    }

    private void hasWantsJustTheseValues() {
        check.about("14 has: whether they have one whose values are just these");
        SentenceGym gym = new SentenceGym();
        gym.addWord(1, 1, 0);
        gym.addWord(1, 1, 2);
        gym.addRule(0, 1, 1, 22);
        say(gym, 0, 1);
        for (int values = 0; values <= 33; values++) {
            if (isDigitPair(values)) {
                check.equal("any is just 0: " + values, gym.has(0, 1, 1, values) ? 1 : 0, values == 10 ? 1 : 0);
                check.equal("0 is no match: " + values, gym.has(1, 2, 1, values) ? 1 : 0, values == 12 ? 1 : 0);
                check.equal("of both: " + values, gym.has(0, 2, 0, values) ? 1 : 0, values == 12 ? 1 : 0);
                check.isFalse("of another category", gym.has(0, 2, 1, values));
            }
        }
    }

    private void hasFindsAnyOfSeveralReadings() {
        check.about("14 has: whether they have a reading with certain values, among several");
        SentenceGym gym = new SentenceGym();
        gym.addWord(0, 1, 2);
        gym.addWord(0, 3, 1);
        gym.addRule(0, 0, 0, 0);
        gym.addRule(0, 0, 0, 11);
        gym.addRule(0, 0, 0, 33);
        gym.addRule(0, 0, 0, 13);
        say(gym, 0, 1);
        for (int values = 0; values <= 33; values++) {
            if (isDigitPair(values)) {
                boolean due = values == 12 || values == 31 || values == 0 || values == 30;
                check.equal("values " + values, gym.has(0, 2, 0, values) ? 1 : 0, due ? 1 : 0);
            }
        }
    }

    /** The words 0 and 1 are one part in two ways, with the values 12 and 31; 2 is a word beside it. */
    private static SentenceGym partOfTwoValues(int first, int second) {
        SentenceGym gym = new SentenceGym();
        gym.addWord(1, 1, 2);
        gym.addWord(2, 3, 1);
        gym.addWord(3, first, second);
        gym.addRule(4, 1, 2, 0);
        gym.addRule(4, 1, 2, 11);
        return gym;
    }

    private void onlyHas(SentenceGym gym, int one, int other) {
        for (int values = 0; values <= 33; values++) {
            if (isDigitPair(values)) {
                check.equal("values " + values, gym.has(0, 3, 0, values) ? 1 : 0, values == one || values == other ? 1 : 0);
            }
        }
    }

    private void hasFindsEachThatOneRuleMakes() {
        check.about("14 has: whether they have a reading with certain values, among several of one rule");
        SentenceGym ahead = say(partOfTwoValues(0, 0), 0, 1, 2);
        ahead.addRule(0, 4, 3, 0);
        onlyHas(ahead, 12, 31);
        SentenceGym behind = say(partOfTwoValues(0, 0), 2, 0, 1);
        behind.addRule(0, 3, 4, 11);
        onlyHas(behind, 12, 31);
        bothWays("behind", behind, 2);
    }

    private void hasFindsTheOneThatAgrees() {
        check.about("14 has: of parts with several values, those that agree");
        int[] agreeing = {12, 31};
        for (int due : agreeing) {
            SentenceGym ahead = say(partOfTwoValues(due / 10, due % 10), 0, 1, 2);
            ahead.addRule(0, 4, 3, 22);
            onlyHas(ahead, due, due);
            bothWays("ahead", ahead, 1);
            check.equal("level", ahead.level(), 3);
            SentenceGym behind = say(partOfTwoValues(due / 10, due % 10), 2, 0, 1);
            behind.addRule(0, 3, 4, 22);
            onlyHas(behind, due, due);
            bothWays("behind", behind, 1);
            check.equal("sentences", behind.sentences(3), 1);
        }
    }

    private void hasGoesFromTheFirstToBehindTheLast() {
        check.about("14 has: from the place of the first one to the place behind the last one");
        SentenceGym gym = new SentenceGym();
        for (int word = 0; word < 6; word++) {
            gym.addWord(0, word / 4, word % 4);
            gym.say(word);
        }
        gym.addRule(0, 0, 0, 0);
        for (int from = 0; from < 6; from++) {
            for (int to = from + 1; to <= 6; to++) {
                for (int word = 0; word < 6; word++) {
                    check.equal(from + " to " + to + " like " + word, gym.has(from, to, 0, 10 * (word / 4) + word % 4) ? 1 : 0,
                            word == from ? 1 : 0);
                }
            }
        }
    }

    private void theLevelOfNoSentenceIsNone() {
        check.about("15 level: NONE if it is no sentence");
        check.equal("a new object", new SentenceGym().level(), NONE);
        SentenceGym gym = alikeRules(alikeWords(9, 0), 8);
        check.equal("an empty row", gym.level(), NONE);
        check.equal("a row", say(gym, 0, 1).level(), 1);
        gym.hush();
        check.equal("hushed", gym.level(), NONE);
        check.equal("a word of 1", say(nounsAndVerbs(), 0).level(), NONE);
        check.equal("two that do not agree", say(nounsAndVerbs(), 1, 2).level(), NONE);
        check.equal("two without rules", say(alikeWords(1, 0), 0, 0).level(), NONE);
        check.equal("six without a reading", say(nounsAndVerbs(), 0, 2, 0, 2, 0, 2).level(), NONE);
    }

    private void levelsGoFrom0To8() {
        check.about("15 level: from 0 for a word to 8 for the last rule");
        check.equal("a word", say(alikeWords(1, 0), 0).level(), 0);
        SentenceGym gym = say(alikeWords(1, 0), 0, 0, 0, 0, 0, 0);
        for (int rule = 0; rule < 7; rule++) {
            gym.addRule(1, 0, 0, 33);
        }
        check.equal("none yet", gym.level(), NONE);
        gym.addRule(0, 0, 0, 33);
        check.equal("the last rule", gym.level(), 8);
        gym.dropRule();
        check.equal("taken away", gym.level(), NONE);
        check.equal("the first rule", alikeRules(say(alikeWords(1, 0), 0, 0, 0, 0, 0, 0), 8).level(), 1);
    }
}
