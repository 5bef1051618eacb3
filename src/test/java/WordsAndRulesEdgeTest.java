/** Each sentence of the promises 1 to 5 that names a boundary case, with its edges. */
public final class WordsAndRulesEdgeTest extends Edges {
    private WordsAndRulesEdgeTest() {
        super("WordsAndRulesEdgeTest");
    }

    public static void main(String[] args) {
        WordsAndRulesEdgeTest test = new WordsAndRulesEdgeTest();
        test.aNewObjectHasNoWords();
        test.aNewObjectHasNoRules();
        test.aNewObjectHasAnEmptyRow();
        test.objectsAreApart();
        test.addWordsCategory();
        test.addWordsValues();
        test.addWordReturnsItsNumber();
        test.addWordThrowsIfThereAre9();
        test.addWordThrowsForItsArgumentsFirst();
        test.setWordThrowsIfThereIsNoSuchWord();
        test.setWordsOtherArguments();
        test.setWordReturnsTheCategoryBefore();
        test.setWordChangesThatWordAlone();
        test.setWordThrowsForTheWordFirst();
        test.addRulesCategories();
        test.addRulesModes();
        test.addRuleReturnsItsNumber();
        test.addRuleThrowsIfThereAre8();
        test.addRuleThrowsForItsArgumentsFirst();
        test.dropRuleTakesTheLatestAway();
        test.aRuleInItsPlaceIsAnother();
        test.dropRuleReturnsHowManyThereAre();
        test.dropRuleThrowsIfThereIsNone();
        test.check.end();
    }

    private void aNewObjectHasNoWords() {
        check.about("1 A new object: no words");
        SentenceGym gym = new SentenceGym();
        check.throwsJust("say", INDEX, () -> gym.say(0));
        check.throwsJust("setWord", INDEX, () -> gym.setWord(0, 0, 0, 0));
        for (int length = 1; length <= 4; length++) {
            check.equal("sentences", gym.sentences(length), 0);
            check.equal("sentence", gym.sentence(length, 0), NONE);
            check.equal("share", gym.share(length), 0f);
        }
        check.equal("the first number", gym.addWord(0, 0, 0), 0);
    }

    private void aNewObjectHasNoRules() {
        check.about("1 A new object: no rules");
        SentenceGym gym = new SentenceGym();
        check.throwsJust("dropRule", STATE, gym::dropRule);
        gym.addWord(0, 0, 0);
        check.equal("no sentence of two", gym.sentences(2), 0);
        check.equal("the first number", gym.addRule(0, 0, 0, 33), 0);
        check.equal("a sentence of two", gym.sentences(2), 1);
    }

    private void aNewObjectHasAnEmptyRow() {
        check.about("1 A new object: the row of words is empty");
        SentenceGym gym = new SentenceGym();
        check.equal("said", gym.said(), 0);
        check.throwsJust("wordAt", INDEX, () -> gym.wordAt(0));
        check.throwsJust("change", INDEX, () -> gym.change(0, 0));
        check.throwsJust("readingsOf", INDEX, () -> gym.readingsOf(0, 1, 0));
        check.throwsJust("has", INDEX, () -> gym.has(0, 1, 0, 0) ? 1 : 0);
        check.throwsJust("spoil", INDEX, () -> gym.spoil(0));
        bothWays("readings", gym, 0);
        check.equal("level", gym.level(), NONE);
        check.equal("changes", gym.changes(), NONE);
        check.equal("correction", gym.correction(0), NONE);
        check.equal("hush", gym.hush(), 0);
    }

    private void objectsAreApart() {
        check.about("1 A new object, beside a full one");
        SentenceGym full = alikeRules(say(alikeWords(9, 0), 1, 2, 3, 4, 5, 6), 8);
        SentenceGym gym = new SentenceGym();
        check.equal("said", gym.said(), 0);
        check.equal("sentences", gym.sentences(1), 0);
        check.equal("word", gym.addWord(1, 0, 0), 0);
        check.equal("rule", gym.addRule(1, 1, 1, 33), 0);
        check.equal("the full one's row", row(full), 9123456);
        check.equal("the full one's sentences", full.sentences(1), 9);
    }

    private void addWordsCategory() {
        check.about("2 addWord: category 0 to 7");
        SentenceGym gym = new SentenceGym();
        for (int wrong : outside(0, 7)) {
            check.throwsJust("category " + wrong, ARGUMENT, () -> gym.addWord(wrong, 0, 0));
        }
        check.equal("category 0", gym.addWord(0, 0, 0), 0);
        check.equal("category 7", gym.addWord(7, 0, 0), 1);
        say(gym, 0, 1);
        check.equal("kept 0", gym.readingsOf(0, 1, 0), 1);
        check.equal("kept 7", gym.readingsOf(1, 2, 7), 1);
    }

    private void addWordsValues() {
        check.about("2 addWord: first and second 0 to 3: the values of the features 0 and 1");
        SentenceGym gym = new SentenceGym();
        for (int wrong : outside(0, 3)) {
            check.throwsJust("first " + wrong, ARGUMENT, () -> gym.addWord(0, wrong, 0));
            check.throwsJust("second " + wrong, ARGUMENT, () -> gym.addWord(0, 0, wrong));
        }
        check.equal("0 and 3", gym.addWord(0, 0, 3), 0);
        check.equal("3 and 0", gym.addWord(0, 3, 0), 1);
        say(gym, 0, 1);
        check.isTrue("kept 0 and 3", gym.has(0, 1, 0, 3));
        check.isTrue("kept 3 and 0", gym.has(1, 2, 0, 30));
    }

    private void addWordReturnsItsNumber() {
        check.about("2 addWord: returns its number");
        SentenceGym gym = new SentenceGym();
        for (int word = 0; word < 9; word++) {
            check.equal("number", gym.addWord(word % 8, word % 4, 0), word);
        }
        for (int place = 0; place < 6; place++) {
            gym.say(place + 3);
        }
        for (int place = 0; place < 6; place++) {
            int word = place + 3;
            check.isTrue("word " + word, gym.has(place, place + 1, word % 8, 10 * (word % 4)));
        }
    }

    private void addWordThrowsIfThereAre9() {
        check.about("2 addWord: IllegalStateException if there are 9 words");
        SentenceGym gym = alikeWords(8, 0);
        check.equal("the ninth", gym.addWord(1, 2, 3), 8);
        for (int time = 0; time < 3; time++) {
            check.throwsJust("a tenth", STATE, () -> gym.addWord(0, 0, 0));
        }
        check.throwsJust("no word 9", INDEX, () -> gym.say(9));
        check.equal("no more sentences", gym.sentences(1), 8);
        say(gym, 8);
        check.isTrue("the ninth as it was", gym.has(0, 1, 1, 23));
    }

    private void addWordThrowsForItsArgumentsFirst() {
        check.about("2 addWord: IllegalArgumentException ahead of IllegalStateException");
        SentenceGym gym = alikeWords(9, 0);
        for (int wrong : outside(0, 7)) {
            check.throwsJust("category " + wrong, ARGUMENT, () -> gym.addWord(wrong, 0, 0));
        }
        for (int wrong : outside(0, 3)) {
            check.throwsJust("first " + wrong, ARGUMENT, () -> gym.addWord(0, wrong, 0));
            check.throwsJust("second " + wrong, ARGUMENT, () -> gym.addWord(0, 0, wrong));
            check.throwsJust("all", ARGUMENT, () -> gym.addWord(8, wrong, wrong));
        }
    }

    private void setWordThrowsIfThereIsNoSuchWord() {
        check.about("3 setWord: IndexOutOfBoundsException if there is no such word");
        for (int words = 0; words <= 9; words++) {
            SentenceGym gym = alikeWords(words, 1);
            for (int wrong : outside(0, words - 1)) {
                check.throwsJust("word " + wrong + " of " + words, INDEX, () -> gym.setWord(wrong, 0, 0, 0));
            }
            if (words > 0) {
                check.equal("the first of " + words, gym.setWord(0, 2, 0, 0), 1);
                check.equal("the last of " + words, gym.setWord(words - 1, 3, 0, 0), words == 1 ? 2 : 1);
            }
        }
    }

    private void setWordsOtherArguments() {
        check.about("3 setWord: IllegalArgumentException if another argument is out of range");
        SentenceGym gym = alikeWords(2, 5);
        for (int wrong : outside(0, 7)) {
            check.throwsJust("category " + wrong, ARGUMENT, () -> gym.setWord(1, wrong, 0, 0));
        }
        for (int wrong : outside(0, 3)) {
            check.throwsJust("first " + wrong, ARGUMENT, () -> gym.setWord(1, 0, wrong, 0));
            check.throwsJust("second " + wrong, ARGUMENT, () -> gym.setWord(1, 0, 0, wrong));
        }
        gym.say(1);
        check.isTrue("as it was", gym.has(0, 1, 5, 0));
        gym.setWord(1, 7, 3, 0);
        check.isTrue("7, 3 and 0", gym.has(0, 1, 7, 30));
        gym.setWord(1, 0, 0, 3);
        check.isTrue("0, 0 and 3", gym.has(0, 1, 0, 3));
    }

    private void setWordReturnsTheCategoryBefore() {
        check.about("3 setWord: returns the category before");
        SentenceGym gym = new SentenceGym();
        gym.addWord(7, 1, 2);
        check.equal("of addWord", gym.setWord(0, 0, 3, 3), 7);
        check.equal("of setWord", gym.setWord(0, 4, 0, 0), 0);
        check.equal("the same again", gym.setWord(0, 4, 1, 1), 4);
    }

    private void setWordChangesThatWordAlone() {
        check.about("3 setWord: changes a word, in the row too");
        SentenceGym gym = say(nounsAndVerbs(), 0, 2, 0, 1);
        gym.setWord(0, 0, 2, 1);
        check.equal("the row", row(gym), 90201);
        check.isTrue("at the place 0", gym.has(0, 1, 0, 21));
        check.isTrue("at the place 2", gym.has(2, 3, 0, 21));
        check.isTrue("the word ahead", gym.has(1, 2, 2, 13));
        check.isTrue("the word behind", gym.has(3, 4, 1, 20));
        check.equal("no word more", gym.addWord(0, 0, 0), 4);
    }

    private void setWordThrowsForTheWordFirst() {
        check.about("3 setWord: IndexOutOfBoundsException ahead of IllegalArgumentException");
        for (int words = 0; words <= 9; words += 9) {
            SentenceGym gym = alikeWords(words, 0);
            for (int word : outside(0, words - 1)) {
                check.throwsJust("category", INDEX, () -> gym.setWord(word, 8, 0, 0));
                check.throwsJust("first", INDEX, () -> gym.setWord(word, 0, 4, 0));
                check.throwsJust("second", INDEX, () -> gym.setWord(word, 0, 0, -1));
                check.throwsJust("all", INDEX, () -> gym.setWord(word, -1, -1, 4));
            }
        }
    }

    private void addRulesCategories() {
        check.about("4 addRule: made, first and second 0 to 7");
        SentenceGym gym = new SentenceGym();
        for (int wrong : outside(0, 7)) {
            check.throwsJust("made " + wrong, ARGUMENT, () -> gym.addRule(wrong, 0, 0, 0));
            check.throwsJust("first " + wrong, ARGUMENT, () -> gym.addRule(0, wrong, 0, 0));
            check.throwsJust("second " + wrong, ARGUMENT, () -> gym.addRule(0, 0, wrong, 0));
        }
        gym.addWord(0, 0, 0);
        gym.addWord(7, 0, 0);
        check.equal("7 of 0 and 0", gym.addRule(7, 0, 0, 33), 0);
        check.equal("0 of 7 and 0", gym.addRule(0, 7, 0, 33), 1);
        check.equal("0 of 0 and 7", gym.addRule(0, 0, 7, 33), 2);
        check.equal("made 7", say(gym, 0, 0).readingsOf(0, 2, 7), 1);
        check.equal("first 7", say(gym, 1, 0).level(), 2);
        check.equal("second 7", say(gym, 0, 1).level(), 3);
    }

    private void addRulesModes() {
        check.about("4 addRule: modes 10 times that of the feature 0, and that of the feature 1; modes are 0 to 3");
        SentenceGym gym = new SentenceGym();
        for (int wrong : wrongDigitPairs()) {
            check.throwsJust("modes " + wrong, ARGUMENT, () -> gym.addRule(0, 0, 0, wrong));
        }
        for (int modes = -40; modes <= 140; modes++) {
            SentenceGym other = new SentenceGym();
            int pair = modes;
            if (isDigitPair(modes)) {
                check.equal("modes " + modes, other.addRule(0, 0, 0, modes), 0);
            } else {
                check.throwsJust("modes " + modes, ARGUMENT, () -> other.addRule(0, 0, 0, pair));
            }
        }
    }

    private void addRuleReturnsItsNumber() {
        check.about("4 addRule: returns its number");
        SentenceGym gym = say(alikeWords(1, 0), 0, 0);
        for (int rule = 0; rule < 8; rule++) {
            check.equal("number", gym.addRule(rule == 7 ? 0 : 1, 0, 0, 33), rule);
        }
        check.equal("the rule 7 is the last", gym.level(), 8);
    }

    private void addRuleThrowsIfThereAre8() {
        check.about("4 addRule: IllegalStateException if there are 8 rules");
        SentenceGym gym = alikeRules(say(alikeWords(1, 0), 0, 0), 7);
        check.equal("the eighth", gym.addRule(0, 0, 0, 33), 7);
        for (int time = 0; time < 3; time++) {
            check.throwsJust("a ninth", STATE, () -> gym.addRule(1, 0, 0, 33));
        }
        bothWays("the eighth as it was", gym, 8);
        check.equal("taken away", gym.dropRule(), 7);
        check.equal("the eighth again", gym.addRule(0, 0, 0, 33), 7);
        check.throwsJust("a ninth again", STATE, () -> gym.addRule(0, 0, 0, 33));
    }

    private void addRuleThrowsForItsArgumentsFirst() {
        check.about("4 addRule: IllegalArgumentException ahead of IllegalStateException");
        SentenceGym gym = alikeRules(new SentenceGym(), 8);
        for (int wrong : outside(0, 7)) {
            check.throwsJust("made " + wrong, ARGUMENT, () -> gym.addRule(wrong, 0, 0, 0));
            check.throwsJust("first " + wrong, ARGUMENT, () -> gym.addRule(0, wrong, 0, 0));
            check.throwsJust("second " + wrong, ARGUMENT, () -> gym.addRule(0, 0, wrong, 0));
        }
        for (int wrong : wrongDigitPairs()) {
            check.throwsJust("modes " + wrong, ARGUMENT, () -> gym.addRule(0, 0, 0, wrong));
        }
        check.throwsJust("all", ARGUMENT, () -> gym.addRule(8, 8, 8, 4));
    }

    private void dropRuleTakesTheLatestAway() {
        check.about("5 dropRule: takes the latest rule away");
        SentenceGym gym = say(alikeWords(1, 0), 0, 0);
        gym.addRule(1, 0, 0, 33);
        gym.addRule(2, 0, 0, 33);
        gym.dropRule();
        check.equal("the first stays", gym.readingsOf(0, 2, 1), 1);
        check.equal("the latest is away", gym.readingsOf(0, 2, 2), 0);
        gym.addRule(3, 0, 0, 33);
        check.equal("the one before is not back", gym.readingsOf(0, 2, 2), 0);
        gym.dropRule();
        gym.dropRule();
        check.equal("the first is away", gym.readingsOf(0, 2, 1), 0);
        check.equal("the words stay", gym.readingsOf(0, 1, 0), 1);
    }

    private void aRuleInItsPlaceIsAnother() {
        check.about("5 dropRule: takes the latest rule away, for another one in its place");
        SentenceGym gym = nounsAndVerbs();
        for (int modes : new int[] {33, 22, 0, 2, 11, 20}) {
            gym.dropRule();
            gym.addRule(0, 1, 2, modes);
            boolean mustAgree = modes == 22 || modes == 20;
            bothWays("modes " + modes, say(gym, 1, 2), mustAgree ? 0 : 1);
            check.equal("level", gym.level(), mustAgree ? NONE : 1);
            bothWays("modes " + modes + " of values that agree", say(gym, 0, 2), 1);
        }
        gym.dropRule();
        gym.addRule(0, 2, 1, 33);
        bothWays("turned round", say(gym, 0, 2), 0);
        bothWays("turned round, in order", say(gym, 2, 0), 1);
    }

    private void dropRuleReturnsHowManyThereAre() {
        check.about("5 dropRule: returns how many rules there are then");
        SentenceGym gym = alikeRules(say(alikeWords(1, 0), 0, 0), 8);
        for (int rules = 7; rules >= 0; rules--) {
            check.equal("left", gym.dropRule(), rules);
            bothWays("read by " + rules, gym, rules);
        }
        check.equal("the next number", gym.addRule(0, 0, 0, 33), 0);
    }

    private void dropRuleThrowsIfThereIsNone() {
        check.about("5 dropRule: IllegalStateException if there is none");
        SentenceGym gym = new SentenceGym();
        for (int time = 0; time < 3; time++) {
            check.throwsJust("of a new object", STATE, gym::dropRule);
        }
        check.equal("the first number still", gym.addRule(0, 0, 0, 0), 0);
        check.equal("the only one", gym.dropRule(), 0);
        check.throwsJust("behind the only one", STATE, gym::dropRule);
    }
}
