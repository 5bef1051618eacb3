/** Each sentence of the document's section "Terms" that names a boundary case, with its edges. */
public final class TermsEdgeTest extends Edges {
    /** Grammars of the category 0: six words' values, then the modes of eight rules. */
    private static final int[] READINGS_999999 = {
        10, 10, 33, 21, 0, 33, 2, 1, 33, 33, 22, 13, 0, 31};
    private static final int[] READINGS_1000000 = {
        1, 13, 10, 20, 23, 1, 33, 10, 33, 32, 21, 30, 13, 21};
    private static final int[] READINGS_1000001 = {
        10, 33, 0, 2, 31, 0, 12, 0, 13, 0, 33, 0, 22, 31};
    private static final int[] TREES = {1, 1, 2, 5, 14, 42};

    private TermsEdgeTest() {
        super("TermsEdgeTest");
    }

    public static void main(String[] args) {
        TermsEdgeTest test = new TermsEdgeTest();
        test.noneIsBelow0();
        test.categoriesAre0To7();
        test.aSentenceIsOfTheCategory0();
        test.valuesAre0To3();
        test.valuesAgreeIfTheSameOrOneIs0();
        test.thereCanBe9Words();
        test.aRowCanHaveAWordSeveralTimes();
        test.aRowCanHave6Words();
        test.thereCanBe8Rules();
        test.aRuleMakesAPartOfTwoParts();
        test.theSecondPartIsBehindTheFirst();
        test.modesSayWhatTheNewPartHas();
        test.eachFeatureHasItsOwnMode();
        test.aWordIsAPartByItself();
        test.aReadingSplitsAnywhereButAtTheEnds();
        test.readingsAreTheSameOnlyWithTheSameRules();
        test.readingsAreTheSameOnlyAtTheSamePlaces();
        test.aSentenceMayHaveAnyValues();
        test.numbersUpTo1000000AreTold();
        test.numbersAbove1000000AreToldAs1000000();
        test.numbersOfOtherCategoriesAreToldAlike();
        test.aSingleWordHasTheLevel0();
        test.theLevelIsTheGreatestNumberAnd1();
        test.theLevelOfASentenceIsTheLeastOne();
        test.theCall512StillAnswers();
        test.check.end();
    }

    private void noneIsBelow0() {
        check.about("NONE = -1");
        check.equal("NONE", SentenceGym.NONE, -1);
    }

    private void categoriesAre0To7() {
        check.about("Categories are 0 to 7");
        for (int category = 0; category <= 7; category++) {
            SentenceGym gym = alikeWords(1, category);
            gym.addRule(category, category, category, 33);
            say(gym, 0, 0);
            for (int other = 0; other <= 7; other++) {
                int due = other == category ? 1 : 0;
                check.equal("a word of " + category + " as " + other, gym.readingsOf(0, 1, other), due);
                check.equal("two of " + category + " as " + other, gym.readingsOf(0, 2, other), due);
            }
        }
    }

    private void aSentenceIsOfTheCategory0() {
        check.about("a sentence is of the category 0");
        for (int category = 0; category <= 7; category++) {
            SentenceGym gym = say(alikeWords(1, category), 0);
            boolean is = category == 0;
            bothWays("a word of " + category, gym, is ? 1 : 0);
            check.equal("level of " + category, gym.level(), is ? 0 : NONE);
            check.equal("changes of " + category, gym.changes(), is ? 0 : NONE);
            check.equal("sentences of " + category, gym.sentences(1), is ? 1 : 0);
            gym.addWord(7 - category, 0, 0);
            gym.addRule(category, 7 - category, 7 - category, 33);
            bothWays("two make " + category, say(gym, 1, 1), is ? 1 : 0);
        }
    }

    private void valuesAre0To3() {
        check.about("a feature of a word or of a part has a value from 0 to 3");
        for (int first = 0; first <= 3; first++) {
            for (int second = 0; second <= 3; second++) {
                SentenceGym gym = new SentenceGym();
                gym.addWord(5, first, second);
                gym.addRule(5, 5, 5, 0);
                say(gym, 0, 0);
                onlyHas(gym, 0, 1, 5, 10 * first + second);
                onlyHas(gym, 0, 2, 5, 10 * first + second);
            }
        }
    }

    /** Checks that some words have just these values as a category; none, if they are NONE. */
    private void onlyHas(SentenceGym gym, int from, int to, int category, int due) {
        for (int values = 0; values <= 33; values++) {
            if (isDigitPair(values)) {
                check.equal("has " + values + ", due " + due, gym.has(from, to, category, values) ? 1 : 0, values == due ? 1 : 0);
            }
        }
    }

    private void valuesAgreeIfTheSameOrOneIs0() {
        check.about("Two values agree if they are the same or one of them is 0; they make the one that is not 0, or 0");
        int[][] made = {{0, 1, 2, 3}, {1, 1, NONE, NONE}, {2, NONE, 2, NONE}, {3, NONE, NONE, 3}};
        for (int one = 0; one <= 3; one++) {
            for (int other = 0; other <= 3; other++) {
                int due = made[one][other];
                twoWords(20, 10 * one, 10 * other, due == NONE ? NONE : 10 * due);
                twoWords(2, one, other, due);
            }
        }
    }

    /** Checks what one rule makes of two words with these values. */
    private void twoWords(int modes, int one, int other, int due) {
        SentenceGym gym = new SentenceGym();
        gym.addWord(1, one / 10, one % 10);
        gym.addWord(2, other / 10, other % 10);
        gym.addRule(0, 1, 2, modes);
        say(gym, 0, 1);
        bothWays("modes " + modes + " of " + one + " and " + other, gym, due == NONE ? 0 : 1);
        check.equal("level", gym.level(), due == NONE ? NONE : 1);
        onlyHas(gym, 0, 2, 0, due);
    }

    private void thereCanBe9Words() {
        check.about("There can be 9 words, numbered from 0");
        SentenceGym gym = new SentenceGym();
        for (int word = 0; word < 9; word++) {
            int behind = word;
            check.throwsJust("say " + word + " of as many", INDEX, () -> gym.say(behind));
            check.equal("number", gym.addWord(0, 0, 0), word);
            check.equal("sentences", gym.sentences(1), word + 1);
        }
        check.throwsJust("a tenth", STATE, () -> gym.addWord(0, 0, 0));
        check.equal("still 9", gym.sentences(1), 9);
        check.equal("the first", gym.say(0), 1);
        check.equal("the last", gym.say(8), 2);
        check.throwsJust("none behind", INDEX, () -> gym.say(9));
    }

    private void aRowCanHaveAWordSeveralTimes() {
        check.about("A row of words can have a word several times");
        SentenceGym gym = alikeRules(alikeWords(1, 0), 1);
        for (int length = 1; length <= 6; length++) {
            check.equal("said", gym.say(0), length);
            check.equal("word", gym.wordAt(length - 1), 0);
            bothWays("the word " + length + " times", gym, TREES[length - 1]);
        }
        for (int length = 1; length <= 4; length++) {
            check.equal("sentences", gym.sentences(length), 1);
        }
        check.equal("sentence", gym.sentence(4, 0), 90000);
    }

    private void aRowCanHave6Words() {
        check.about("the row has 6 words at most");
        SentenceGym gym = alikeWords(9, 0);
        for (int word = 0; word < 6; word++) {
            check.equal("said", gym.say(8 - word), word + 1);
        }
        check.throwsJust("a seventh", STATE, () -> gym.say(0));
        check.equal("row", row(gym), 9876543);
    }

    private void thereCanBe8Rules() {
        check.about("There can be 8 rules, numbered from 0");
        SentenceGym gym = say(alikeWords(1, 0), 0, 0);
        for (int rule = 0; rule < 8; rule++) {
            bothWays(rule + " rules", gym, rule);
            check.equal("number", gym.addRule(0, 0, 0, 33), rule);
        }
        bothWays("8 rules", gym, 8);
        check.throwsJust("a ninth", STATE, () -> gym.addRule(0, 0, 0, 33));
        bothWays("still 8 rules", gym, 8);
        check.equal("taken away", gym.dropRule(), 7);
    }

    private void aRuleMakesAPartOfTwoParts() {
        check.about("A rule makes a part of one category out of two parts");
        SentenceGym gym = alikeWords(1, 1);
        gym.addRule(0, 1, 1, 33);
        int[] due = {0, 1, 0, 0, 0, 0};
        for (int length = 1; length <= 6; length++) {
            gym.say(0);
            bothWays(length + " words", gym, due[length - 1]);
        }
    }

    private void theSecondPartIsBehindTheFirst() {
        check.about("one behind the other, of two told categories");
        SentenceGym gym = alikeWords(1, 1);
        gym.addWord(2, 0, 0);
        gym.addRule(0, 1, 2, 33);
        bothWays("in order", say(gym, 0, 1), 1);
        bothWays("turned round", say(gym, 1, 0), 0);
        bothWays("the first twice", say(gym, 0, 0), 0);
        bothWays("the second twice", say(gym, 1, 1), 0);
        bothWays("a word between", say(gym, 0, 0, 1), 0);
    }

    private void modesSayWhatTheNewPartHas() {
        check.about("modes 0: of the first part; 1: of the second; 2: both must agree; 3: 0");
        for (int one = 0; one <= 3; one++) {
            for (int other = 0; other <= 3; other++) {
                boolean agree = one == other || one == 0 || other == 0;
                int[] due = {one, other, agree ? Math.max(one, other) : NONE, 0};
                for (int mode = 0; mode <= 3; mode++) {
                    twoWords(10 * mode + 3, 10 * one, 10 * other, due[mode] == NONE ? NONE : 10 * due[mode]);
                    twoWords(30 + mode, one, other, due[mode]);
                }
            }
        }
    }

    private void eachFeatureHasItsOwnMode() {
        check.about("For each feature it has a mode");
        int[] due = {1, 2, NONE, 0};
        for (int high = 0; high <= 3; high++) {
            for (int low = 0; low <= 3; low++) {
                boolean allowed = high != 2 && low != 2;
                twoWords(10 * high + low, 11, 22, allowed ? 10 * due[high] + due[low] : NONE);
            }
        }
        twoWords(2, 11, 21, 11);
        twoWords(12, 11, 21, 21);
        twoWords(20, 11, 12, 11);
        twoWords(21, 11, 12, 12);
        twoWords(22, 1, 10, 11);
    }

    private void aWordIsAPartByItself() {
        check.about("A word is a part by itself, with its category and values");
        SentenceGym gym = new SentenceGym();
        gym.addWord(7, 3, 1);
        say(gym, 0, 0);
        onlyHas(gym, 0, 1, 7, 31);
        onlyHas(gym, 1, 2, 7, 31);
        onlyHas(gym, 0, 1, 0, NONE);
        check.equal("readingsOf", gym.readingsOf(1, 2, 7), 1);
        onlyHas(gym, 0, 2, 7, NONE);
        check.equal("two words without a rule", gym.readingsOf(0, 2, 7), 0);
    }

    private void aReadingSplitsAnywhereButAtTheEnds() {
        check.about("a reading of the first few words and one of all the others");
        SentenceGym gym = alikeWords(1, 1);
        gym.addWord(2, 0, 0);
        gym.addRule(0, 1, 2, 33);
        gym.addRule(1, 1, 1, 33);
        gym.addRule(2, 2, 2, 33);
        for (int length = 1; length <= 6; length++) {
            for (int few = 0; few <= length; few++) {
                gym.hush();
                for (int place = 0; place < length; place++) {
                    gym.say(place < few ? 0 : 1);
                }
                boolean some = few > 0 && few < length;
                bothWays(few + " of " + length, gym, some ? TREES[few - 1] * TREES[length - few - 1] : 0);
            }
        }
    }

    private void readingsAreTheSameOnlyWithTheSameRules() {
        check.about("Two readings are the same if they use the same rules");
        SentenceGym gym = alikeRules(say(alikeWords(1, 0), 0, 0, 0), 1);
        bothWays("one rule", gym, 2);
        gym.addRule(0, 0, 0, 33);
        bothWays("two rules apart though alike", gym, 8);
        check.equal("readingsOf", gym.readingsOf(0, 2, 0), 2);
        gym.setWord(0, 0, 0, 0);
        gym.addWord(0, 0, 0);
        bothWays("another word alike", say(gym, 1, 0, 1), 8);
    }

    private void readingsAreTheSameOnlyAtTheSamePlaces() {
        check.about("at the same places");
        SentenceGym gym = alikeRules(alikeWords(1, 0), 1);
        gym.addRule(0, 0, 7, 33);
        say(gym, 0, 0, 0, 0);
        bothWays("all trees of four words", gym, 5);
        check.equal("of its end", gym.readingsOf(1, 4, 0), 2);
    }

    private void aSentenceMayHaveAnyValues() {
        check.about("A row of words is a sentence if it has a reading as the category 0 (whatever its values are)");
        for (int first = 0; first <= 3; first++) {
            for (int second = 0; second <= 3; second++) {
                SentenceGym gym = new SentenceGym();
                gym.addWord(0, first, second);
                gym.addRule(0, 0, 0, 22);
                for (int length = 1; length <= 4; length++) {
                    gym.say(0);
                    check.equal("readings", gym.readings(), TREES[length - 1]);
                    check.equal("changes", gym.changes(), 0);
                    check.equal("sentences", gym.sentences(length), 1);
                    check.equal("level", gym.level(), length == 1 ? 0 : 1);
                }
            }
        }
    }

    /** Six words and eight rules of one category, and the row of these words. */
    private static SentenceGym manyReadings(int[] digits, int category) {
        SentenceGym gym = new SentenceGym();
        for (int word = 0; word < 6; word++) {
            gym.addWord(category, digits[word] / 10, digits[word] % 10);
            gym.say(word);
        }
        for (int rule = 0; rule < 8; rule++) {
            gym.addRule(category, category, category, digits[6 + rule]);
        }
        return gym;
    }

    private void toldAs(int[] digits, int due) {
        SentenceGym gym = manyReadings(digits, 0);
        bothWays("told", gym, due);
        check.equal("told: readingsOf", gym.readingsOf(0, 6, 0), due);
    }

    private void numbersUpTo1000000AreTold() {
        check.about("Numbers of readings above 1000000 are told as 1000000: up to it they are told");
        toldAs(READINGS_999999, 999999);
        toldAs(READINGS_1000000, 1000000);
    }

    private void numbersAbove1000000AreToldAs1000000() {
        check.about("Numbers of readings above 1000000 are told as 1000000");
        toldAs(READINGS_1000001, 1000000);
        SentenceGym most = alikeRules(say(alikeWords(1, 0), 0, 0, 0, 0, 0, 0), 8);
        bothWays("the most there can be", most, 1000000);
        check.equal("the most: five words", most.readingsOf(1, 6, 0), 57344);
        most.dropRule();
        bothWays("by 7 rules", most, 705894);
    }

    private void numbersOfOtherCategoriesAreToldAlike() {
        check.about("Numbers of readings above 1000000 are told as 1000000, of any category");
        for (int category = 1; category <= 7; category += 6) {
            SentenceGym below = manyReadings(READINGS_999999, category);
            check.equal("below, as " + category, below.readingsOf(0, 6, category), 999999);
            SentenceGym above = manyReadings(READINGS_1000001, category);
            check.equal("above, as " + category, above.readingsOf(0, 6, category), 1000000);
            bothWays("as 0", above, 0);
        }
    }

    private void aSingleWordHasTheLevel0() {
        check.about("The level of a reading is 0 for a single word");
        SentenceGym gym = say(alikeWords(1, 0), 0);
        check.equal("no rules", gym.level(), 0);
        check.equal("8 rules", alikeRules(gym, 8).level(), 0);
    }

    private void theLevelIsTheGreatestNumberAnd1() {
        check.about("The level of a reading is the greatest number of all its rules, and 1, added");
        for (int number = 0; number < 8; number++) {
            SentenceGym gym = alikeWords(1, 1);
            for (int rule = 0; rule < 8; rule++) {
                gym.addRule(rule == number ? 0 : 7, 1, 1, 33);
            }
            check.equal("only by rule " + number, say(gym, 0, 0).level(), number + 1);
        }
        check.equal("the greatest on top", levelOfThree(2, 0, 1), 3);
        check.equal("the greatest at the front", levelOfThree(0, 2, 1), 3);
        check.equal("the greatest at the end", levelOfThree(0, 1, 2), 3);
        check.equal("the last rule at the end", levelOfThree(1, 0, 7), 8);
    }

    /** The level of four words, read by one rule on top, one of the first two, one of the others. */
    private static int levelOfThree(int top, int front, int end) {
        SentenceGym gym = alikeWords(1, 1);
        gym.addWord(2, 0, 0);
        for (int rule = 0; rule < 8; rule++) {
            if (rule == top) {
                gym.addRule(0, 3, 4, 33);
            } else if (rule == front) {
                gym.addRule(3, 1, 1, 33);
            } else if (rule == end) {
                gym.addRule(4, 2, 2, 33);
            } else {
                gym.addRule(0, 0, 0, 33);
            }
        }
        return say(gym, 0, 0, 1, 1).level();
    }

    private void theLevelOfASentenceIsTheLeastOne() {
        check.about("The level of a sentence is the least one of all its readings");
        SentenceGym gym = alikeWords(1, 0);
        gym.addRule(7, 0, 0, 33);
        alikeRules(gym, 7);
        check.equal("two words, by the rules 1 to 7", say(gym, 0, 0).level(), 2);
        check.equal("six words", say(gym, 0, 0, 0, 0, 0, 0).level(), 2);
        SentenceGym two = alikeWords(1, 1);
        two.addRule(5, 1, 1, 33);
        two.addRule(0, 1, 6, 33);
        two.addRule(6, 1, 1, 33);
        two.addRule(0, 5, 1, 33);
        check.equal("by 1 and 2, not by 0 and 3", say(two, 0, 0, 0).level(), 3);
        two.dropRule();
        two.dropRule();
        two.addRule(0, 5, 1, 33);
        check.equal("by 0 and 2", two.level(), 3);
    }

    private void theCall512StillAnswers() {
        check.about("An object is used for at most 512 calls after it has been made");
        SentenceGym gym = nounsAndVerbs();
        gym.say(0);
        gym.say(2);
        for (int call = 8; call < 510; call++) {
            gym.change(0, call % 2);
        }
        check.equal("call 510", gym.change(0, 0), 1);
        check.equal("call 511", gym.sentence(2, 2), 913);
        check.equal("call 512", gym.readings(), 1);
    }
}
