import java.util.function.IntUnaryOperator;

/** Each sentence of the promises 16 to 21 that names a boundary case, with its edges. */
public final class MakingEdgeTest extends Edges {
    private MakingEdgeTest() {
        super("MakingEdgeTest");
    }

    public static void main(String[] args) {
        MakingEdgeTest test = new MakingEdgeTest();
        test.sentencesLength();
        test.sentencesOfNoWords();
        test.sentencesWithoutRules();
        test.sentencesOfAllRows();
        test.sentencesAreRowsNotReadings();
        test.sentencesDoNotLookAtTheRow();
        test.sentenceLength();
        test.sentenceKBelow0();
        test.sentenceLengthAndK();
        test.sentenceKFrom0();
        test.sentenceOrder();
        test.sentenceDigits();
        test.sentenceNotSoMany();
        test.shareLength();
        test.shareOfNoWords();
        test.shareOfAllOrNone();
        test.shareIsAFloat();
        test.spoilPlace();
        test.spoilOfNoSentence();
        test.spoilNoneIfThereIsNone();
        test.spoilLowest();
        test.spoilSameCategory();
        test.spoilChangesNothing();
        test.changesOfASentence();
        test.changesOfAnEmptyRow();
        test.changesUpTo2();
        test.changesIfTwoDoNotDo();
        test.changesTheFewest();
        test.correctionKBelow0();
        test.correctionNotSoMany();
        test.correctionOrder();
        test.correctionToAnotherWord();
        test.correctionOfASentence();
        test.correctionOfAnEmptyRow();
        test.correctionLast();
        test.check.end();
    }

    /** Nine words that are sentences, and rules that make sentences of all rows. */
    private static SentenceGym allSentences() {
        return alikeRules(alikeWords(9, 0), 8);
    }

    private void wrongLengths(IntUnaryOperator call) {
        for (int wrong : outside(1, 4)) {
            check.throwsJust("length " + wrong, ARGUMENT, () -> call.applyAsInt(wrong));
        }
        for (int wrong = 5; wrong <= 9; wrong++) {
            int length = wrong;
            check.throwsJust("length " + wrong, ARGUMENT, () -> call.applyAsInt(length));
        }
    }

    private void sentencesLength() {
        check.about("16 sentences: length 1 to 4");
        wrongLengths(new SentenceGym()::sentences);
        wrongLengths(nounsAndVerbs()::sentences);
        SentenceGym gym = alikeRules(alikeWords(2, 0), 1);
        int[] due = {2, 4, 8, 16};
        for (int length = 1; length <= 4; length++) {
            check.equal("length " + length, gym.sentences(length), due[length - 1]);
        }
    }

    private void sentencesOfNoWords() {
        check.about("16 sentences: no words");
        SentenceGym gym = alikeRules(new SentenceGym(), 8);
        for (int length = 1; length <= 4; length++) {
            check.equal("length " + length, gym.sentences(length), 0);
        }
    }

    private void sentencesWithoutRules() {
        check.about("16 sentences: no rules");
        SentenceGym gym = alikeWords(4, 0);
        gym.setWord(1, 1, 0, 0);
        check.equal("length 1", gym.sentences(1), 3);
        for (int length = 2; length <= 4; length++) {
            check.equal("length " + length, gym.sentences(length), 0);
        }
    }

    private void sentencesOfAllRows() {
        check.about("16 sentences: 9 words, all rows");
        SentenceGym gym = allSentences();
        int rows = 1;
        for (int length = 1; length <= 4; length++) {
            rows *= 9;
            check.equal("length " + length, gym.sentences(length), rows);
        }
        gym.setWord(8, 1, 0, 0);
        check.equal("all without the last word", gym.sentences(4), 4096);
        gym.setWord(8, 0, 0, 0);
        gym.setWord(0, 1, 0, 0);
        check.equal("all without the first word", gym.sentences(4), 4096);
    }

    private void sentencesAreRowsNotReadings() {
        check.about("16 sentences: how many rows of so many words are sentences");
        SentenceGym gym = alikeRules(alikeWords(1, 0), 8);
        check.equal("one row of many readings", gym.sentences(4), 1);
        gym.addWord(0, 0, 0);
        check.equal("rows of words alike", gym.sentences(4), 16);
    }

    private void sentencesDoNotLookAtTheRow() {
        check.about("16 sentences: rows of words, not the row");
        SentenceGym gym = nounsAndVerbs();
        check.equal("an empty row", gym.sentences(2), 3);
        check.equal("a row", say(gym, 1, 2, 1, 2, 1, 2).sentences(2), 3);
        check.equal("the row stays", row(gym), 9121212);
    }

    private void sentenceLength() {
        check.about("17 sentence: IllegalArgumentException if length is out of range");
        SentenceGym none = new SentenceGym();
        wrongLengths(length -> none.sentence(length, 0));
        SentenceGym gym = allSentences();
        wrongLengths(length -> gym.sentence(length, 0));
        for (int length = 1, due = 90; length <= 4; length++, due *= 10) {
            check.equal("length " + length, gym.sentence(length, 0), due);
        }
    }

    private void sentenceKBelow0() {
        check.about("17 sentence: IllegalArgumentException if k is below 0");
        SentenceGym none = new SentenceGym();
        SentenceGym gym = allSentences();
        for (int length = 1; length <= 4; length++) {
            int right = length;
            check.throwsJust("-1", ARGUMENT, () -> gym.sentence(right, -1));
            check.throwsJust("small", ARGUMENT, () -> gym.sentence(right, SMALL));
            check.throwsJust("-1 of no words", ARGUMENT, () -> none.sentence(right, -1));
        }
    }

    private void sentenceLengthAndK() {
        check.about("17 sentence: length and k out of range at once");
        SentenceGym gym = allSentences();
        wrongLengths(length -> gym.sentence(length, -1));
        wrongLengths(length -> gym.sentence(length, LARGE));
    }

    private void sentenceKFrom0() {
        check.about("17 sentence: k from 0");
        SentenceGym gym = allSentences();
        check.equal("the first of 1", gym.sentence(1, 0), 90);
        check.equal("the last of 1", gym.sentence(1, 8), 98);
        check.equal("the first of 4", gym.sentence(4, 0), 90000);
        check.equal("the second of 4", gym.sentence(4, 1), 90001);
        check.equal("the last of 4", gym.sentence(4, 6560), 98888);
        gym.setWord(0, 1, 0, 0);
        check.equal("the first without the word 0", gym.sentence(4, 0), 91111);
        check.equal("the last without the word 0", gym.sentence(4, 4095), 98888);
    }

    private void sentenceOrder() {
        check.about("17 sentence: in the order of the first word, then the second one, and so on");
        SentenceGym gym = alikeRules(alikeWords(3, 0), 1);
        int k = 0;
        for (int first = 0; first < 3; first++) {
            for (int second = 0; second < 3; second++) {
                for (int third = 0; third < 3; third++) {
                    check.equal("k " + k, gym.sentence(3, k), 9000 + 100 * first + 10 * second + third);
                    k++;
                }
            }
        }
    }

    private void sentenceDigits() {
        check.about("17 sentence: its words as digits behind a 9: 902 for the words 0 and 2");
        SentenceGym gym = nounsAndVerbs();
        check.equal("0 and 2", gym.sentence(2, 0), 902);
        check.equal("0 and 3", gym.sentence(2, 1), 903);
        check.equal("1 and 3", gym.sentence(2, 2), 913);
    }

    private void sentenceNotSoMany() {
        check.about("17 sentence: NONE if there are not so many sentences");
        SentenceGym gym = allSentences();
        for (int length = 1, rows = 9; length <= 4; length++, rows *= 9) {
            check.equal("one too many of " + length, gym.sentence(length, rows), NONE);
            check.equal("large of " + length, gym.sentence(length, LARGE), NONE);
            check.equal("no words", new SentenceGym().sentence(length, 0), NONE);
        }
        check.equal("one too many of three", nounsAndVerbs().sentence(2, 3), NONE);
        check.equal("none of 1", nounsAndVerbs().sentence(1, 0), NONE);
        check.equal("no rules", alikeWords(9, 0).sentence(4, 0), NONE);
    }

    private void shareLength() {
        check.about("18 share: IllegalArgumentException if length is out of range");
        SentenceGym none = new SentenceGym();
        wrongLengths(length -> (int) none.share(length));
        SentenceGym gym = alikeRules(alikeWords(2, 0), 1);
        wrongLengths(length -> (int) gym.share(length));
        gym.setWord(1, 1, 0, 0);
        for (int length = 1, rows = 2; length <= 4; length++, rows *= 2) {
            check.equal("length " + length, gym.share(length), 1f / (float) rows);
        }
    }

    private void shareOfNoWords() {
        check.about("18 share: 0 if there are no words");
        SentenceGym gym = alikeRules(new SentenceGym(), 8);
        for (int length = 1; length <= 4; length++) {
            check.equal("length " + length, Float.floatToIntBits(gym.share(length)), Float.floatToIntBits(0f));
        }
    }

    private void shareOfAllOrNone() {
        check.about("18 share: of all rows, and of none");
        SentenceGym all = allSentences();
        SentenceGym none = alikeRules(alikeWords(9, 7), 8);
        for (int length = 1; length <= 4; length++) {
            check.equal("all of " + length, all.share(length), 1f);
            check.equal("none of " + length, Float.floatToIntBits(none.share(length)), Float.floatToIntBits(0f));
        }
    }

    private void shareIsAFloat() {
        check.about("18 share: the number of the sentences, as a float, divided by that of the rows, as a float");
        SentenceGym gym = allSentences();
        for (int word = 1; word < 9; word++) {
            gym.setWord(word, 1, 0, 0);
        }
        check.equal("1 of 9", gym.share(1), 1f / 9f);
        check.equal("1 of 81", gym.share(2), 1f / 81f);
        check.equal("1 of 6561", gym.share(4), 1f / 6561f);
        gym.setWord(5, 0, 0, 0);
        check.equal("8 of 729", gym.share(3), 8f / 729f);
        check.equal("16 of 6561", gym.share(4), 16f / 6561f);
    }

    private void spoilPlace() {
        check.about("19 spoil: IndexOutOfBoundsException if there is no such place");
        for (int length = 0; length <= 6; length++) {
            SentenceGym gym = allSentences();
            for (int place = 0; place < length; place++) {
                gym.say(place);
            }
            for (int wrong : outside(0, length - 1)) {
                check.throwsJust("place " + wrong + " of " + length, INDEX, () -> gym.spoil(wrong));
            }
            for (int place = 0; place < length; place++) {
                check.equal("place " + place + " of " + length, gym.spoil(place), NONE);
            }
        }
        SentenceGym no = say(nounsAndVerbs(), 1, 2);
        check.throwsJust("behind a row that is no sentence", INDEX, () -> no.spoil(2));
        check.throwsJust("ahead of it", INDEX, () -> no.spoil(-1));
    }

    private void spoilOfNoSentence() {
        check.about("19 spoil: NONE if the row is no sentence");
        check.equal("two that do not agree", say(nounsAndVerbs(), 1, 2).spoil(0), NONE);
        check.equal("at the other place", say(nounsAndVerbs(), 1, 2).spoil(1), NONE);
        check.equal("a word", say(nounsAndVerbs(), 0).spoil(0), NONE);
        check.equal("no rules", say(alikeWords(9, 0), 0, 1, 2, 3, 4, 5).spoil(5), NONE);
    }

    private void spoilNoneIfThereIsNone() {
        check.about("19 spoil: NONE if there is none");
        check.equal("the only word of its category", say(nounsAndVerbs(), 0, 3).spoil(0), NONE);
        check.equal("all the others will do", say(nounsAndVerbs(), 0, 2).spoil(1), NONE);
        SentenceGym gym = nounsAndVerbs();
        gym.addWord(0, 1, 1);
        gym.addWord(0, 2, 2);
        check.equal("a single word", say(gym, 4).spoil(0), NONE);
        check.equal("a single word that is alone", say(alikeWords(1, 0), 0).spoil(0), NONE);
    }

    /** Words of the category 1, each with a told value; each makes a sentence with itself. */
    private static SentenceGym likeWithLike(int... values) {
        SentenceGym gym = new SentenceGym();
        for (int value : values) {
            gym.addWord(1, value, 0);
        }
        gym.addRule(0, 1, 1, 20);
        return gym;
    }

    private void spoilLowest() {
        check.about("19 spoil: the lowest word with which the row is no sentence");
        check.equal("the word 0", say(likeWithLike(2, 2, 1, 1), 2, 3).spoil(0), 0);
        check.equal("the word 0, at the last place", say(likeWithLike(2, 2, 1, 1), 2, 3).spoil(1), 0);
        check.equal("one between", say(likeWithLike(1, 0, 1, 2, 3), 0, 2).spoil(0), 3);
        check.equal("the word 8", say(likeWithLike(1, 1, 1, 0, 1, 0, 1, 1, 2), 0, 2).spoil(1), 8);
        SentenceGym six = likeWithLike(1, 1, 3);
        six.addRule(1, 1, 1, 22);
        check.equal("at the last of six places", say(six, 0, 1, 0, 1, 0, 1).spoil(5), 2);
        check.equal("at the first of six places", six.spoil(0), 2);
    }

    private void spoilSameCategory() {
        check.about("19 spoil: though it has the same category as the word that is there");
        SentenceGym gym = new SentenceGym();
        gym.addWord(3, 2, 0);
        gym.addWord(2, 1, 0);
        gym.addWord(1, 1, 0);
        gym.addWord(2, 2, 0);
        gym.addWord(1, 2, 0);
        gym.addRule(0, 1, 2, 20);
        check.equal("a noun for a noun", say(gym, 2, 1).spoil(0), 4);
        check.equal("a verb for a verb", gym.spoil(1), 3);
        gym.setWord(4, 0, 2, 0);
        check.equal("no other noun", gym.spoil(0), NONE);
    }

    private void spoilChangesNothing() {
        check.about("19 spoil: returns a word, put in place of one: the row stays");
        SentenceGym gym = say(nounsAndVerbs(), 0, 2);
        check.equal("spoil", gym.spoil(0), 1);
        check.equal("the row", row(gym), 902);
        check.equal("spoil again", gym.spoil(0), 1);
        bothWays("still a sentence", gym, 1);
    }

    private void changesOfASentence() {
        check.about("20 changes: 0 if it is one");
        check.equal("two", say(nounsAndVerbs(), 0, 2).changes(), 0);
        check.equal("a word", say(alikeWords(1, 0), 0).changes(), 0);
        check.equal("six", say(allSentences(), 0, 1, 2, 3, 4, 5).changes(), 0);
    }

    private void changesOfAnEmptyRow() {
        check.about("20 changes: NONE if the row is empty");
        check.equal("a new object", new SentenceGym().changes(), NONE);
        check.equal("words and rules", allSentences().changes(), NONE);
        SentenceGym gym = say(allSentences(), 0);
        check.equal("a word", gym.changes(), 0);
        gym.hush();
        check.equal("hushed", gym.changes(), NONE);
    }

    /** The word 0 begins and makes sentences of any number of words; the word 1 spoils all. */
    private static SentenceGym goodAndBad() {
        SentenceGym gym = alikeRules(alikeWords(1, 0), 1);
        gym.addWord(1, 0, 0);
        return gym;
    }

    private void changesUpTo2() {
        check.about("20 changes: how few words have to be changed for the row to be a sentence, up to 2");
        for (int length = 1; length <= 6; length++) {
            for (int bad = 0; bad < 1 << length; bad++) {
                SentenceGym gym = goodAndBad();
                for (int place = 0; place < length; place++) {
                    gym.say(bad >> place & 1);
                }
                int count = Integer.bitCount(bad);
                check.equal("bad places " + Integer.toBinaryString(bad) + " of " + length, gym.changes(), count <= 2 ? count : NONE);
            }
        }
    }

    private void changesIfTwoDoNotDo() {
        check.about("20 changes: NONE if 2 do not do");
        check.equal("three due", say(goodAndBad(), 1, 1, 1).changes(), NONE);
        check.equal("six due", say(goodAndBad(), 1, 1, 1, 1, 1, 1).changes(), NONE);
        check.equal("no word that is a sentence", say(nounsAndVerbs(), 0).changes(), NONE);
        check.equal("no rules", say(alikeWords(9, 0), 0, 1).changes(), NONE);
        check.equal("no such length", say(nounsAndVerbs(), 0, 2, 0, 2).changes(), NONE);
    }

    private void changesTheFewest() {
        check.about("20 changes: how few");
        check.equal("one, though two do too", say(nounsAndVerbs(), 1, 2).changes(), 1);
        check.equal("both words", say(nounsAndVerbs(), 2, 0).changes(), 2);
        SentenceGym gym = say(nounsAndVerbs(), 1, 1);
        check.equal("one to another category", gym.changes(), 1);
        check.equal("the row stays", row(gym), 911);
        gym.setWord(3, 2, 3, 0);
        check.equal("two, as no verb agrees", gym.changes(), 2);
        gym.setWord(2, 1, 0, 0);
        gym.setWord(3, 1, 0, 0);
        check.equal("no verb at all", gym.changes(), NONE);
    }

    private void correctionKBelow0() {
        check.about("21 correction: IndexOutOfBoundsException if k is below 0");
        SentenceGym empty = new SentenceGym();
        SentenceGym gym = say(nounsAndVerbs(), 1, 2);
        for (int wrong : new int[] {-1, -2, -10, SMALL}) {
            check.throwsJust("k " + wrong, INDEX, () -> gym.correction(wrong));
            check.throwsJust("k " + wrong + " of an empty row", INDEX, () -> empty.correction(wrong));
        }
        check.equal("k 0", gym.correction(0), 0);
    }

    private void correctionNotSoMany() {
        check.about("21 correction: NONE if there are not so many corrections");
        SentenceGym gym = say(nounsAndVerbs(), 1, 2);
        check.equal("the last", gym.correction(1), 13);
        check.equal("one too many", gym.correction(2), NONE);
        check.equal("large", gym.correction(LARGE), NONE);
        check.equal("none at all", say(nounsAndVerbs(), 2, 0).correction(0), NONE);
        check.equal("no rules", say(alikeWords(9, 0), 0, 1).correction(0), NONE);
    }

    private void correctionOrder() {
        check.about("21 correction: in the order of places, then of words; 10 times the place, and the new word, added");
        SentenceGym gym = say(alikeRules(alikeWords(9, 0), 1), 3, 0, 8);
        int k = 0;
        for (int place = 0; place < 3; place++) {
            for (int word = 0; word < 9; word++) {
                if (word != gym.wordAt(place)) {
                    check.equal("k " + k, gym.correction(k), 10 * place + word);
                    k++;
                }
            }
        }
        check.equal("behind", gym.correction(k), NONE);
    }

    private void correctionToAnotherWord() {
        check.about("21 correction: one of its words changed to another one");
        check.equal("the only word", say(alikeWords(1, 0), 0).correction(0), NONE);
        SentenceGym alike = say(alikeWords(2, 0), 0);
        check.equal("a word alike", alike.correction(0), 1);
        check.equal("not to itself", alike.correction(1), NONE);
        SentenceGym gym = say(goodAndBad(), 0, 1, 0);
        gym.addWord(0, 3, 3);
        check.equal("of any category", gym.correction(0), 10);
        check.equal("the next", gym.correction(1), 12);
        check.equal("one alone is changed", gym.correction(2), NONE);
        check.equal("the row stays", row(gym), 9010);
    }

    private void correctionOfASentence() {
        check.about("21 correction: (also if it is one already)");
        SentenceGym gym = say(nounsAndVerbs(), 0, 3);
        check.equal("the first", gym.correction(0), 1);
        check.equal("the second", gym.correction(1), 12);
        check.equal("no more", gym.correction(2), NONE);
    }

    private void correctionOfAnEmptyRow() {
        check.about("21 correction: NONE if there are not so many: an empty row");
        check.equal("a new object", new SentenceGym().correction(0), NONE);
        check.equal("words and rules", allSentences().correction(0), NONE);
        check.equal("large", allSentences().correction(LARGE), NONE);
        SentenceGym gym = say(allSentences(), 0);
        check.equal("a word", gym.correction(0), 1);
        gym.hush();
        check.equal("hushed", gym.correction(0), NONE);
    }

    private void correctionLast() {
        check.about("21 correction: the last place of 6, the last word of 9");
        SentenceGym gym = say(alikeRules(alikeWords(9, 0), 1), 0, 0, 0, 0, 0, 0);
        check.equal("the first", gym.correction(0), 1);
        check.equal("the last", gym.correction(47), 58);
        check.equal("behind", gym.correction(48), NONE);
    }
}
