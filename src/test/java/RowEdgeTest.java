/** Each sentence of the promises 6 to 10 that names a boundary case, with its edges. */
public final class RowEdgeTest extends Edges {
    private RowEdgeTest() {
        super("RowEdgeTest");
    }

    public static void main(String[] args) {
        RowEdgeTest test = new RowEdgeTest();
        test.sayThrowsIfThereIsNoSuchWord();
        test.sayThrowsIfTheRowHas6Words();
        test.sayThrowsForTheWordFirst();
        test.saySaysAtTheEnd();
        test.changeThrowsIfThereIsNoSuchPlace();
        test.changeThrowsIfThereIsNoSuchWord();
        test.changeThrowsIfNeitherIs();
        test.changeReturnsTheWordBefore();
        test.hushReturnsHowManyItHad();
        test.hushEmptiesTheRowAlone();
        test.saidTellsHowManyTheRowHas();
        test.wordAtThrowsIfThereIsNoSuchPlace();
        test.wordAtReturnsTheWord();
        test.check.end();
    }

    /** Nine words, of which the first few are said. */
    private static SentenceGym saidOfNine(int length) {
        SentenceGym gym = alikeWords(9, 0);
        for (int word = 0; word < length; word++) {
            gym.say(word);
        }
        return gym;
    }

    private void sayThrowsIfThereIsNoSuchWord() {
        check.about("6 say: IndexOutOfBoundsException if there is no such word");
        for (int words = 0; words <= 9; words++) {
            SentenceGym gym = alikeWords(words, 0);
            for (int wrong : outside(0, words - 1)) {
                check.throwsJust("word " + wrong + " of " + words, INDEX, () -> gym.say(wrong));
            }
            check.equal("nothing said", gym.said(), 0);
            if (words > 0) {
                check.equal("the first of " + words, gym.say(0), 1);
                check.equal("the last of " + words, gym.say(words - 1), 2);
            }
        }
    }

    private void sayThrowsIfTheRowHas6Words() {
        check.about("6 say: IllegalStateException if the row has 6 words");
        SentenceGym gym = saidOfNine(5);
        check.equal("the sixth", gym.say(8), 6);
        for (int time = 0; time < 3; time++) {
            check.throwsJust("a seventh", STATE, () -> gym.say(0));
        }
        check.equal("the row as it was", row(gym), 9012348);
        gym.hush();
        check.equal("the first again", gym.say(7), 1);
    }

    private void sayThrowsForTheWordFirst() {
        check.about("6 say: IndexOutOfBoundsException ahead of IllegalStateException");
        SentenceGym gym = saidOfNine(6);
        for (int wrong : outside(0, 8)) {
            check.throwsJust("word " + wrong, INDEX, () -> gym.say(wrong));
        }
    }

    private void saySaysAtTheEnd() {
        check.about("6 say: puts a word at the end; returns how many words the row has then");
        SentenceGym gym = alikeWords(9, 0);
        int due = 9;
        for (int word = 8; word > 2; word--) {
            check.equal("returned", gym.say(word), 9 - word);
            due = 10 * due + word;
            check.equal("the row", row(gym), due);
        }
    }

    private void changeThrowsIfThereIsNoSuchPlace() {
        check.about("7 change: IndexOutOfBoundsException if there is no such place");
        for (int length = 0; length <= 6; length++) {
            SentenceGym gym = saidOfNine(length);
            for (int wrong : outside(0, length - 1)) {
                check.throwsJust("place " + wrong + " of " + length, INDEX, () -> gym.change(wrong, 8));
            }
            check.equal("said", gym.said(), length);
            if (length > 0) {
                check.equal("the last of " + length, gym.change(length - 1, 8), length - 1);
                check.equal("the first of " + length, gym.change(0, 7), length == 1 ? 8 : 0);
            }
        }
    }

    private void changeThrowsIfThereIsNoSuchWord() {
        check.about("7 change: IndexOutOfBoundsException if there is no such word");
        for (int words = 1; words <= 9; words++) {
            SentenceGym gym = say(alikeWords(words, 0), 0, 0);
            for (int wrong : outside(0, words - 1)) {
                check.throwsJust("word " + wrong + " of " + words, INDEX, () -> gym.change(1, wrong));
            }
            check.equal("the row as it was", row(gym), 900);
            check.equal("the last of " + words, gym.change(1, words - 1), 0);
            check.equal("the row", row(gym), 900 + words - 1);
        }
    }

    private void changeThrowsIfNeitherIs() {
        check.about("7 change: IndexOutOfBoundsException if there is no such place or word: neither");
        SentenceGym none = new SentenceGym();
        check.throwsJust("of a new object", INDEX, () -> none.change(0, 0));
        SentenceGym gym = saidOfNine(6);
        for (int place : outside(0, 5)) {
            for (int word : outside(0, 8)) {
                check.throwsJust(place + " and " + word, INDEX, () -> gym.change(place, word));
            }
        }
        check.equal("the row as it was", row(gym), 9012345);
    }

    private void changeReturnsTheWordBefore() {
        check.about("7 change: puts another word in place of one; returns the word before");
        SentenceGym gym = saidOfNine(6);
        check.equal("the first", gym.change(0, 8), 0);
        check.equal("the last", gym.change(5, 0), 5);
        check.equal("the first again", gym.change(0, 6), 8);
        check.equal("to itself", gym.change(3, 3), 3);
        check.equal("the row", row(gym), 9612340);
        check.equal("said", gym.said(), 6);
    }

    private void hushReturnsHowManyItHad() {
        check.about("8 hush: returns how many words it had");
        for (int length = 0; length <= 6; length++) {
            SentenceGym gym = saidOfNine(length);
            check.equal("of " + length, gym.hush(), length);
            check.equal("of none", gym.hush(), 0);
        }
    }

    private void hushEmptiesTheRowAlone() {
        check.about("8 hush: empties the row");
        SentenceGym gym = alikeRules(saidOfNine(6), 8);
        gym.hush();
        check.equal("said", gym.said(), 0);
        check.throwsJust("wordAt", INDEX, () -> gym.wordAt(0));
        check.throwsJust("change", INDEX, () -> gym.change(0, 0));
        bothWays("readings", gym, 0);
        check.equal("level", gym.level(), NONE);
        check.equal("the words stay", gym.sentences(1), 9);
        check.throwsJust("the rules stay", STATE, () -> gym.addRule(0, 0, 0, 0));
        check.equal("a word anew", gym.say(8), 1);
        check.equal("the row", row(gym), 98);
        bothWays("one word", gym, 1);
    }

    private void saidTellsHowManyTheRowHas() {
        check.about("9 said: returns how many words the row has");
        SentenceGym gym = alikeWords(9, 0);
        for (int length = 0; length <= 6; length++) {
            check.equal("said", gym.said(), length);
            if (length < 6) {
                gym.say(length);
            }
        }
        gym.change(5, 0);
        check.equal("after a change", gym.said(), 6);
        gym.hush();
        check.equal("after hush", gym.said(), 0);
    }

    private void wordAtThrowsIfThereIsNoSuchPlace() {
        check.about("10 wordAt: IndexOutOfBoundsException if there is no such place");
        for (int length = 0; length <= 6; length++) {
            SentenceGym gym = saidOfNine(length);
            for (int wrong : outside(0, length - 1)) {
                check.throwsJust("place " + wrong + " of " + length, INDEX, () -> gym.wordAt(wrong));
            }
        }
        SentenceGym hushed = saidOfNine(6);
        hushed.hush();
        hushed.say(1);
        check.throwsJust("a place of the row before", INDEX, () -> hushed.wordAt(1));
    }

    private void wordAtReturnsTheWord() {
        check.about("10 wordAt: returns a word of the row, from 0");
        SentenceGym gym = say(alikeWords(9, 0), 8, 0, 7, 0, 1, 6);
        int[] due = {8, 0, 7, 0, 1, 6};
        for (int place = 0; place < 6; place++) {
            check.equal("place " + place, gym.wordAt(place), due[place]);
        }
    }
}
